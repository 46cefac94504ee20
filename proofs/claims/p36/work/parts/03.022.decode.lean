theorem dX8_isAskable_6 : decode cX8_isAskable 6 = .ok (.if_icmp .le 15, 3) := by decide +kernel
theorem dX8_isAskable_9 : decode cX8_isAskable 9 = .ok (.iload_n 0, 1) := by decide +kernel
theorem dX8_isAskable_10 : decode cX8_isAskable 10 = .ok (.bipush 10, 2) := by decide +kernel
theorem dX8_isAskable_12 : decode cX8_isAskable 12 = .ok (.if_icmp .lt 13, 3) := by decide +kernel
theorem dX8_isAskable_15 : decode cX8_isAskable 15 = .ok (.iload_n 0, 1) := by decide +kernel
theorem dX8_isAskable_16 : decode cX8_isAskable 16 = .ok (.bipush 18, 2) := by decide +kernel
theorem dX8_isAskable_18 : decode cX8_isAskable 18 = .ok (.if_icmp .ge 7, 3) := by decide +kernel
theorem dX8_isAskable_21 : decode cX8_isAskable 21 = .ok (.iconst 1, 1) := by decide +kernel
theorem dX8_isAskable_22 : decode cX8_isAskable 22 = .ok (.goto 4, 3) := by decide +kernel
theorem dX8_isAskable_25 : decode cX8_isAskable 25 = .ok (.iconst 0, 1) := by decide +kernel
theorem dX8_isAskable_26 : decode cX8_isAskable 26 = .ok (.ireturn, 1) := by decide +kernel
theorem dX8_nextDraw_0 : decode cX8_nextDraw 0 = .ok (.ldc_w 349, 3) := by decide +kernel
theorem dX8_nextDraw_3 : decode cX8_nextDraw 3 = .ok (.iload_n 0, 1) := by decide +kernel
theorem dX8_nextDraw_4 : decode cX8_nextDraw 4 = .ok (.imul, 1) := by decide +kernel
theorem dX8_nextDraw_5 : decode cX8_nextDraw 5 = .ok (.sipush 12345, 3) := by decide +kernel
theorem dX8_nextDraw_8 : decode cX8_nextDraw 8 = .ok (.iadd, 1) := by decide +kernel
theorem dX8_nextDraw_9 : decode cX8_nextDraw 9 = .ok (.ireturn, 1) := by decide +kernel
theorem dX8_refusedSearch_0 : decode cX8_refusedSearch 0 = .ok (.iload_n 1, 1) := by decide +kernel
theorem dX8_refusedSearch_1 : decode cX8_refusedSearch 1 = .ok (.ifCond .ne 6, 3) := by decide +kernel
theorem dX8_refusedSearch_4 : decode cX8_refusedSearch 4 = .ok (.bipush (-2), 2) := by decide +kernel
theorem dX8_refusedSearch_6 : decode cX8_refusedSearch 6 = .ok (.ireturn, 1) := by decide +kernel
theorem dX8_refusedSearch_7 : decode cX8_refusedSearch 7 = .ok (.iload_n 2, 1) := by decide +kernel
theorem dX8_refusedSearch_8 : decode cX8_refusedSearch 8 = .ok (.iconst 1, 1) := by decide +kernel
theorem dX8_refusedSearch_9 : decode cX8_refusedSearch 9 = .ok (.if_icmp .lt 8, 3) := by decide +kernel
theorem dX8_refusedSearch_12 : decode cX8_refusedSearch 12 = .ok (.iload_n 2, 1) := by decide +kernel
theorem dX8_refusedSearch_13 : decode cX8_refusedSearch 13 = .ok (.iload_n 3, 1) := by decide +kernel
theorem dX8_refusedSearch_14 : decode cX8_refusedSearch 14 = .ok (.if_icmp .le 6, 3) := by decide +kernel
theorem dX8_refusedSearch_17 : decode cX8_refusedSearch 17 = .ok (.bipush (-3), 2) := by decide +kernel
theorem dX8_refusedSearch_19 : decode cX8_refusedSearch 19 = .ok (.ireturn, 1) := by decide +kernel
theorem dX8_refusedSearch_20 : decode cX8_refusedSearch 20 = .ok (.aload_n 0, 1) := by decide +kernel
theorem dX8_refusedSearch_21 : decode cX8_refusedSearch 21 = .ok (.getfield 27, 3) := by decide +kernel
theorem dX8_refusedSearch_24 : decode cX8_refusedSearch 24 = .ok (.getfield 161, 3) := by decide +kernel
theorem dX8_refusedSearch_27 : decode cX8_refusedSearch 27 = .ok (.ifCond .ne 8, 3) := by decide +kernel
theorem dX8_refusedSearch_30 : decode cX8_refusedSearch 30 = .ok (.bipush (-5), 2) := by decide +kernel
theorem dX8_refusedSearch_32 : decode cX8_refusedSearch 32 = .ok (.goto 4, 3) := by decide +kernel
theorem dX8_refusedSearch_35 : decode cX8_refusedSearch 35 = .ok (.iconst 0, 1) := by decide +kernel
theorem dX8_refusedSearch_36 : decode cX8_refusedSearch 36 = .ok (.ireturn, 1) := by decide +kernel
theorem dX8_possibleMinutes_0 : decode cX8_possibleMinutes 0 = .ok (.iload_n 1, 1) := by decide +kernel
theorem dX8_possibleMinutes_1 : decode cX8_possibleMinutes 1 = .ok (.aload_n 0, 1) := by decide +kernel
theorem dX8_possibleMinutes_2 : decode cX8_possibleMinutes 2 = .ok (.getfield 27, 3) := by decide +kernel
theorem dX8_possibleMinutes_5 : decode cX8_possibleMinutes 5 = .ok (.getfield 208, 3) := by decide +kernel
theorem dX8_possibleMinutes_8 : decode cX8_possibleMinutes 8 = .ok (.sipush 9999, 3) := by decide +kernel
theorem dX8_possibleMinutes_11 : decode cX8_possibleMinutes 11 = .ok (.aload_n 0, 1) := by decide +kernel
theorem dX8_possibleMinutes_12 : decode cX8_possibleMinutes 12 = .ok (.getfield 27, 3) := by decide +kernel
theorem dX8_possibleMinutes_15 : decode cX8_possibleMinutes 15 = .ok (.getfield 216, 3) := by decide +kernel
theorem dX8_possibleMinutes_18 : decode cX8_possibleMinutes 18 = .ok (.isub, 1) := by decide +kernel
theorem dX8_possibleMinutes_19 : decode cX8_possibleMinutes 19 = .ok (.invokestatic 211, 3) := by decide +kernel
theorem dX8_possibleMinutes_22 : decode cX8_possibleMinutes 22 = .ok (.invokestatic 211, 3) := by decide +kernel
theorem dX8_possibleMinutes_25 : decode cX8_possibleMinutes 25 = .ok (.ireturn, 1) := by decide +kernel
theorem dX8_seek_0 : decode cX8_seek 0 = .ok (.aload_n 0, 1) := by decide +kernel
theorem dX8_seek_1 : decode cX8_seek 1 = .ok (.iload_n 3, 1) := by decide +kernel
theorem dX8_seek_2 : decode cX8_seek 2 = .ok (.invokevirtual 233, 3) := by decide +kernel
theorem dX8_seek_5 : decode cX8_seek 5 = .ok (.istore 4, 2) := by decide +kernel
theorem dX8_seek_7 : decode cX8_seek 7 = .ok (.aload_n 0, 1) := by decide +kernel
theorem dX8_seek_8 : decode cX8_seek 8 = .ok (.getfield 51, 3) := by decide +kernel
theorem dX8_seek_11 : decode cX8_seek 11 = .ok (.aload_n 0, 1) := by decide +kernel
theorem dX8_seek_12 : decode cX8_seek 12 = .ok (.getfield 27, 3) := by decide +kernel
theorem dX8_seek_15 : decode cX8_seek 15 = .ok (.getfield 161, 3) := by decide +kernel
theorem dX8_seek_18 : decode cX8_seek 18 = .ok (.aload_n 0, 1) := by decide +kernel
theorem dX8_seek_19 : decode cX8_seek 19 = .ok (.getfield 27, 3) := by decide +kernel
theorem dX8_seek_22 : decode cX8_seek 22 = .ok (.getfield 128, 3) := by decide +kernel
theorem dX8_seek_25 : decode cX8_seek 25 = .ok (.iload 4, 2) := by decide +kernel
theorem dX8_seek_27 : decode cX8_seek 27 = .ok (.invokevirtual 281, 3) := by decide +kernel
theorem dX8_seek_30 : decode cX8_seek 30 = .ok (.aload_n 0, 1) := by decide +kernel
theorem dX8_seek_31 : decode cX8_seek 31 = .ok (.getfield 58, 3) := by decide +kernel
theorem dX8_seek_34 : decode cX8_seek 34 = .ok (.aload_n 0, 1) := by decide +kernel
theorem dX8_seek_35 : decode cX8_seek 35 = .ok (.getfield 27, 3) := by decide +kernel
theorem dX8_seek_38 : decode cX8_seek 38 = .ok (.iload_n 1, 1) := by decide +kernel
theorem dX8_seek_39 : decode cX8_seek 39 = .ok (.iload_n 2, 1) := by decide +kernel
theorem dX8_seek_40 : decode cX8_seek 40 = .ok (.invokevirtual 273, 3) := by decide +kernel
theorem dX8_seek_43 : decode cX8_seek 43 = .ok (.aload_n 0, 1) := by decide +kernel
theorem dX8_seek_44 : decode cX8_seek 44 = .ok (.getfield 58, 3) := by decide +kernel
theorem dX8_seek_47 : decode cX8_seek 47 = .ok (.aload_n 0, 1) := by decide +kernel
theorem dX8_seek_48 : decode cX8_seek 48 = .ok (.getfield 51, 3) := by decide +kernel
theorem dX8_seek_51 : decode cX8_seek 51 = .ok (.iload 4, 2) := by decide +kernel
theorem dX8_seek_53 : decode cX8_seek 53 = .ok (.iconst (-1), 1) := by decide +kernel
theorem dX8_seek_54 : decode cX8_seek 54 = .ok (.invokevirtual 277, 3) := by decide +kernel
theorem dX8_seek_57 : decode cX8_seek 57 = .ok (.return_, 1) := by decide +kernel
theorem dX8_foundAnswer_0 : decode cX8_foundAnswer 0 = .ok (.iload_n 2, 1) := by decide +kernel
theorem dX8_foundAnswer_1 : decode cX8_foundAnswer 1 = .ok (.bipush 10, 2) := by decide +kernel
theorem dX8_foundAnswer_3 : decode cX8_foundAnswer 3 = .ok (.if_icmp .ge 5, 3) := by decide +kernel
theorem dX8_foundAnswer_6 : decode cX8_foundAnswer 6 = .ok (.iload_n 3, 1) := by decide +kernel
theorem dX8_foundAnswer_7 : decode cX8_foundAnswer 7 = .ok (.ireturn, 1) := by decide +kernel
theorem dX8_foundAnswer_8 : decode cX8_foundAnswer 8 = .ok (.aload_n 0, 1) := by decide +kernel
theorem dX8_foundAnswer_9 : decode cX8_foundAnswer 9 = .ok (.getfield 51, 3) := by decide +kernel
theorem dX8_foundAnswer_12 : decode cX8_foundAnswer 12 = .ok (.aload_n 0, 1) := by decide +kernel
theorem dX8_foundAnswer_13 : decode cX8_foundAnswer 13 = .ok (.getfield 58, 3) := by decide +kernel
theorem dX8_foundAnswer_16 : decode cX8_foundAnswer 16 = .ok (.getfield 257, 3) := by decide +kernel
theorem dX8_foundAnswer_19 : decode cX8_foundAnswer 19 = .ok (.aload_n 0, 1) := by decide +kernel
theorem dX8_foundAnswer_20 : decode cX8_foundAnswer 20 = .ok (.iload_n 1, 1) := by decide +kernel
theorem dX8_foundAnswer_21 : decode cX8_foundAnswer 21 = .ok (.invokevirtual 233, 3) := by decide +kernel
theorem dX8_foundAnswer_24 : decode cX8_foundAnswer 24 = .ok (.iload_n 2, 1) := by decide +kernel
theorem dX8_foundAnswer_25 : decode cX8_foundAnswer 25 = .ok (.bipush 10, 2) := by decide +kernel
theorem dX8_foundAnswer_27 : decode cX8_foundAnswer 27 = .ok (.isub, 1) := by decide +kernel
theorem dX8_foundAnswer_28 : decode cX8_foundAnswer 28 = .ok (.invokevirtual 350, 3) := by decide +kernel
theorem dX8_foundAnswer_31 : decode cX8_foundAnswer 31 = .ok (.ireturn, 1) := by decide +kernel
theorem dX8_canShift_0 : decode cX8_canShift 0 = .ok (.iload_n 1, 1) := by decide +kernel
theorem dX8_canShift_1 : decode cX8_canShift 1 = .ok (.iload_n 2, 1) := by decide +kernel
theorem dX8_canShift_2 : decode cX8_canShift 2 = .ok (.if_icmp .eq 55, 3) := by decide +kernel
theorem dX8_canShift_5 : decode cX8_canShift 5 = .ok (.aload_n 0, 1) := by decide +kernel
theorem dX8_canShift_6 : decode cX8_canShift 6 = .ok (.getfield 27, 3) := by decide +kernel
theorem dX8_canShift_9 : decode cX8_canShift 9 = .ok (.iload_n 1, 1) := by decide +kernel
theorem dX8_canShift_10 : decode cX8_canShift 10 = .ok (.invokevirtual 108, 3) := by decide +kernel
theorem dX8_canShift_13 : decode cX8_canShift 13 = .ok (.ifCond .eq 44, 3) := by decide +kernel
theorem dX8_canShift_16 : decode cX8_canShift 16 = .ok (.aload_n 0, 1) := by decide +kernel
theorem dX8_canShift_17 : decode cX8_canShift 17 = .ok (.getfield 27, 3) := by decide +kernel
theorem dX8_canShift_20 : decode cX8_canShift 20 = .ok (.iload_n 2, 1) := by decide +kernel
theorem dX8_canShift_21 : decode cX8_canShift 21 = .ok (.invokevirtual 108, 3) := by decide +kernel
theorem dX8_canShift_24 : decode cX8_canShift 24 = .ok (.ifCond .eq 33, 3) := by decide +kernel
theorem dX8_canShift_27 : decode cX8_canShift 27 = .ok (.aload_n 0, 1) := by decide +kernel
theorem dX8_canShift_28 : decode cX8_canShift 28 = .ok (.getfield 27, 3) := by decide +kernel
theorem dX8_canShift_31 : decode cX8_canShift 31 = .ok (.getfield 116, 3) := by decide +kernel
theorem dX8_canShift_34 : decode cX8_canShift 34 = .ok (.iload_n 1, 1) := by decide +kernel
theorem dX8_canShift_35 : decode cX8_canShift 35 = .ok (.iaload, 1) := by decide +kernel
theorem dX8_canShift_36 : decode cX8_canShift 36 = .ok (.ifCond .le 21, 3) := by decide +kernel
theorem dX8_canShift_39 : decode cX8_canShift 39 = .ok (.aload_n 0, 1) := by decide +kernel
theorem dX8_canShift_40 : decode cX8_canShift 40 = .ok (.getfield 27, 3) := by decide +kernel
theorem dX8_canShift_43 : decode cX8_canShift 43 = .ok (.getfield 116, 3) := by decide +kernel
theorem dX8_canShift_46 : decode cX8_canShift 46 = .ok (.iload_n 2, 1) := by decide +kernel
theorem dX8_canShift_47 : decode cX8_canShift 47 = .ok (.iaload, 1) := by decide +kernel
theorem dX8_canShift_48 : decode cX8_canShift 48 = .ok (.bipush 9, 2) := by decide +kernel
theorem dX8_canShift_50 : decode cX8_canShift 50 = .ok (.if_icmp .ge 7, 3) := by decide +kernel
theorem dX8_canShift_53 : decode cX8_canShift 53 = .ok (.iconst 1, 1) := by decide +kernel
theorem dX8_canShift_54 : decode cX8_canShift 54 = .ok (.goto 4, 3) := by decide +kernel
theorem dX8_canShift_57 : decode cX8_canShift 57 = .ok (.iconst 0, 1) := by decide +kernel
theorem dX8_canShift_58 : decode cX8_canShift 58 = .ok (.ireturn, 1) := by decide +kernel
theorem dX8_refusedStubble_0 : decode cX8_refusedStubble 0 = .ok (.iload_n 1, 1) := by decide +kernel
theorem dX8_refusedStubble_1 : decode cX8_refusedStubble 1 = .ok (.invokestatic 182, 3) := by decide +kernel
theorem dX8_refusedStubble_4 : decode cX8_refusedStubble 4 = .ok (.ifCond .ne 6, 3) := by decide +kernel
theorem dX8_refusedStubble_7 : decode cX8_refusedStubble 7 = .ok (.bipush (-2), 2) := by decide +kernel
theorem dX8_refusedStubble_9 : decode cX8_refusedStubble 9 = .ok (.ireturn, 1) := by decide +kernel
theorem dX8_refusedStubble_10 : decode cX8_refusedStubble 10 = .ok (.aload_n 0, 1) := by decide +kernel
theorem dX8_refusedStubble_11 : decode cX8_refusedStubble 11 = .ok (.getfield 44, 3) := by decide +kernel
theorem dX8_refusedStubble_14 : decode cX8_refusedStubble 14 = .ok (.iload_n 1, 1) := by decide +kernel
theorem dX8_refusedStubble_15 : decode cX8_refusedStubble 15 = .ok (.aaload, 1) := by decide +kernel
theorem dX8_refusedStubble_16 : decode cX8_refusedStubble 16 = .ok (.getfield 185, 3) := by decide +kernel
theorem dX8_refusedStubble_19 : decode cX8_refusedStubble 19 = .ok (.ifCond .eq 6, 3) := by decide +kernel
theorem dX8_refusedStubble_22 : decode cX8_refusedStubble 22 = .ok (.bipush (-6), 2) := by decide +kernel
theorem dX8_refusedStubble_24 : decode cX8_refusedStubble 24 = .ok (.ireturn, 1) := by decide +kernel
theorem dX8_refusedStubble_25 : decode cX8_refusedStubble 25 = .ok (.aload_n 0, 1) := by decide +kernel
theorem dX8_refusedStubble_26 : decode cX8_refusedStubble 26 = .ok (.getfield 44, 3) := by decide +kernel
theorem dX8_refusedStubble_29 : decode cX8_refusedStubble 29 = .ok (.iload_n 1, 1) := by decide +kernel
theorem dX8_refusedStubble_30 : decode cX8_refusedStubble 30 = .ok (.aaload, 1) := by decide +kernel
theorem dX8_refusedStubble_31 : decode cX8_refusedStubble 31 = .ok (.getfield 193, 3) := by decide +kernel
theorem dX8_refusedStubble_34 : decode cX8_refusedStubble 34 = .ok (.aload_n 0, 1) := by decide +kernel
theorem dX8_refusedStubble_35 : decode cX8_refusedStubble 35 = .ok (.getfield 27, 3) := by decide +kernel
theorem dX8_refusedStubble_38 : decode cX8_refusedStubble 38 = .ok (.getfield 161, 3) := by decide +kernel
theorem dX8_refusedStubble_41 : decode cX8_refusedStubble 41 = .ok (.if_icmp .eq 6, 3) := by decide +kernel
theorem dX8_refusedStubble_44 : decode cX8_refusedStubble 44 = .ok (.bipush (-7), 2) := by decide +kernel
theorem dX8_refusedStubble_46 : decode cX8_refusedStubble 46 = .ok (.ireturn, 1) := by decide +kernel
theorem dX8_refusedStubble_47 : decode cX8_refusedStubble 47 = .ok (.aload_n 0, 1) := by decide +kernel
theorem dX8_refusedStubble_48 : decode cX8_refusedStubble 48 = .ok (.iconst 1, 1) := by decide +kernel
theorem dX8_refusedStubble_49 : decode cX8_refusedStubble 49 = .ok (.iload_n 2, 1) := by decide +kernel
theorem dX8_refusedStubble_50 : decode cX8_refusedStubble 50 = .ok (.bipush 8, 2) := by decide +kernel
theorem dX8_refusedStubble_52 : decode cX8_refusedStubble 52 = .ok (.invokevirtual 229, 3) := by decide +kernel
theorem dX8_refusedStubble_55 : decode cX8_refusedStubble 55 = .ok (.ireturn, 1) := by decide +kernel
theorem dX8_explain_0 : decode cX8_explain 0 = .ok (.aload_n 0, 1) := by decide +kernel
theorem dX8_explain_1 : decode cX8_explain 1 = .ok (.iload_n 2, 1) := by decide +kernel
theorem dX8_explain_2 : decode cX8_explain 2 = .ok (.invokevirtual 233, 3) := by decide +kernel
theorem dX8_explain_5 : decode cX8_explain 5 = .ok (.iload_n 2, 1) := by decide +kernel
theorem dX8_explain_6 : decode cX8_explain 6 = .ok (.if_icmp .ge 11, 3) := by decide +kernel
theorem dX8_explain_9 : decode cX8_explain 9 = .ok (.aload_n 0, 1) := by decide +kernel
theorem dX8_explain_10 : decode cX8_explain 10 = .ok (.getfield 72, 3) := by decide +kernel
theorem dX8_explain_13 : decode cX8_explain 13 = .ok (.invokevirtual 353, 3) := by decide +kernel
theorem dX8_explain_16 : decode cX8_explain 16 = .ok (.return_, 1) := by decide +kernel
theorem dX8_explain_17 : decode cX8_explain 17 = .ok (.aload_n 0, 1) := by decide +kernel
theorem dX8_explain_18 : decode cX8_explain 18 = .ok (.getfield 51, 3) := by decide +kernel
theorem dX8_explain_21 : decode cX8_explain 21 = .ok (.aload_n 0, 1) := by decide +kernel
theorem dX8_explain_22 : decode cX8_explain 22 = .ok (.getfield 27, 3) := by decide +kernel
theorem dX8_explain_25 : decode cX8_explain 25 = .ok (.getfield 161, 3) := by decide +kernel
theorem dX8_explain_28 : decode cX8_explain 28 = .ok (.aload_n 0, 1) := by decide +kernel
theorem dX8_explain_29 : decode cX8_explain 29 = .ok (.getfield 27, 3) := by decide +kernel
theorem dX8_explain_32 : decode cX8_explain 32 = .ok (.getfield 128, 3) := by decide +kernel
theorem dX8_explain_35 : decode cX8_explain 35 = .ok (.iload_n 2, 1) := by decide +kernel
theorem dX8_explain_36 : decode cX8_explain 36 = .ok (.invokevirtual 281, 3) := by decide +kernel
theorem dX8_explain_39 : decode cX8_explain 39 = .ok (.aload_n 0, 1) := by decide +kernel
theorem dX8_explain_40 : decode cX8_explain 40 = .ok (.getfield 58, 3) := by decide +kernel
theorem dX8_explain_43 : decode cX8_explain 43 = .ok (.aload_n 0, 1) := by decide +kernel
theorem dX8_explain_44 : decode cX8_explain 44 = .ok (.getfield 27, 3) := by decide +kernel
theorem dX8_explain_47 : decode cX8_explain 47 = .ok (.iconst 0, 1) := by decide +kernel
theorem dX8_explain_48 : decode cX8_explain 48 = .ok (.iconst (-1), 1) := by decide +kernel
theorem dX8_explain_49 : decode cX8_explain 49 = .ok (.invokevirtual 273, 3) := by decide +kernel
theorem dX8_explain_52 : decode cX8_explain 52 = .ok (.aload_n 0, 1) := by decide +kernel
theorem dX8_explain_53 : decode cX8_explain 53 = .ok (.getfield 72, 3) := by decide +kernel
theorem dX8_explain_56 : decode cX8_explain 56 = .ok (.aload_n 0, 1) := by decide +kernel
theorem dX8_explain_57 : decode cX8_explain 57 = .ok (.getfield 58, 3) := by decide +kernel
theorem dX8_explain_60 : decode cX8_explain 60 = .ok (.aload_n 0, 1) := by decide +kernel
theorem dX8_explain_61 : decode cX8_explain 61 = .ok (.getfield 51, 3) := by decide +kernel
theorem dX8_explain_64 : decode cX8_explain 64 = .ok (.iload_n 2, 1) := by decide +kernel
theorem dX8_explain_65 : decode cX8_explain 65 = .ok (.aload_n 1, 1) := by decide +kernel
theorem dX8_explain_66 : decode cX8_explain 66 = .ok (.invokevirtual 356, 3) := by decide +kernel
theorem dX8_explain_69 : decode cX8_explain 69 = .ok (.return_, 1) := by decide +kernel
theorem dX8_refusedMeeting_0 : decode cX8_refusedMeeting 0 = .ok (.iload_n 1, 1) := by decide +kernel
theorem dX8_refusedMeeting_1 : decode cX8_refusedMeeting 1 = .ok (.invokestatic 182, 3) := by decide +kernel
theorem dX8_refusedMeeting_4 : decode cX8_refusedMeeting 4 = .ok (.ifCond .eq 10, 3) := by decide +kernel
theorem dX8_refusedMeeting_7 : decode cX8_refusedMeeting 7 = .ok (.iload_n 2, 1) := by decide +kernel
theorem dX8_refusedMeeting_8 : decode cX8_refusedMeeting 8 = .ok (.invokestatic 182, 3) := by decide +kernel
theorem dX8_refusedMeeting_11 : decode cX8_refusedMeeting 11 = .ok (.ifCond .ne 6, 3) := by decide +kernel
theorem dX8_refusedMeeting_14 : decode cX8_refusedMeeting 14 = .ok (.bipush (-2), 2) := by decide +kernel
theorem dX8_refusedMeeting_16 : decode cX8_refusedMeeting 16 = .ok (.ireturn, 1) := by decide +kernel
