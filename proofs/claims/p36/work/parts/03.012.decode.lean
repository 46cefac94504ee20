theorem dX6_readValue_24 : decode cX6_readValue 24 = .ok (.iload_n 2, 1) := by decide +kernel
theorem dX6_readValue_25 : decode cX6_readValue 25 = .ok (.iload_n 1, 1) := by decide +kernel
theorem dX6_readValue_26 : decode cX6_readValue 26 = .ok (.if_icmp .ge 30, 3) := by decide +kernel
theorem dX6_readValue_29 : decode cX6_readValue 29 = .ok (.aload_n 0, 1) := by decide +kernel
theorem dX6_readValue_30 : decode cX6_readValue 30 = .ok (.aload_n 0, 1) := by decide +kernel
theorem dX6_readValue_31 : decode cX6_readValue 31 = .ok (.getfield 41, 3) := by decide +kernel
theorem dX6_readValue_34 : decode cX6_readValue 34 = .ok (.bipush 10, 2) := by decide +kernel
theorem dX6_readValue_36 : decode cX6_readValue 36 = .ok (.imul, 1) := by decide +kernel
theorem dX6_readValue_37 : decode cX6_readValue 37 = .ok (.aload_n 0, 1) := by decide +kernel
theorem dX6_readValue_38 : decode cX6_readValue 38 = .ok (.getfield 25, 3) := by decide +kernel
theorem dX6_readValue_41 : decode cX6_readValue 41 = .ok (.iload_n 2, 1) := by decide +kernel
theorem dX6_readValue_42 : decode cX6_readValue 42 = .ok (.baload, 1) := by decide +kernel
theorem dX6_readValue_43 : decode cX6_readValue 43 = .ok (.iadd, 1) := by decide +kernel
theorem dX6_readValue_44 : decode cX6_readValue 44 = .ok (.bipush 48, 2) := by decide +kernel
theorem dX6_readValue_46 : decode cX6_readValue 46 = .ok (.isub, 1) := by decide +kernel
theorem dX6_readValue_47 : decode cX6_readValue 47 = .ok (.putfield 41, 3) := by decide +kernel
theorem dX6_readValue_50 : decode cX6_readValue 50 = .ok (.iinc 2 1, 3) := by decide +kernel
theorem dX6_readValue_53 : decode cX6_readValue 53 = .ok (.goto (-29), 3) := by decide +kernel
theorem dX6_readValue_56 : decode cX6_readValue 56 = .ok (.return_, 1) := by decide +kernel
theorem dX7_init_0 : decode cX7_init 0 = .ok (.aload_n 0, 1) := by decide +kernel
theorem dX7_init_1 : decode cX7_init 1 = .ok (.invokespecial 3, 3) := by decide +kernel
theorem dX7_init_4 : decode cX7_init 4 = .ok (.aload_n 0, 1) := by decide +kernel
theorem dX7_init_5 : decode cX7_init 5 = .ok (.sipush 2560, 3) := by decide +kernel
theorem dX7_init_8 : decode cX7_init 8 = .ok (.newarray .long, 2) := by decide +kernel
theorem dX7_init_10 : decode cX7_init 10 = .ok (.putfield 11, 3) := by decide +kernel
theorem dX7_init_13 : decode cX7_init 13 = .ok (.aload_n 0, 1) := by decide +kernel
theorem dX7_init_14 : decode cX7_init 14 = .ok (.sipush 2560, 3) := by decide +kernel
theorem dX7_init_17 : decode cX7_init 17 = .ok (.newarray .int, 2) := by decide +kernel
theorem dX7_init_19 : decode cX7_init 19 = .ok (.putfield 15, 3) := by decide +kernel
theorem dX7_init_22 : decode cX7_init 22 = .ok (.aload_n 0, 1) := by decide +kernel
theorem dX7_init_23 : decode cX7_init 23 = .ok (.sipush 2560, 3) := by decide +kernel
theorem dX7_init_26 : decode cX7_init 26 = .ok (.newarray .int, 2) := by decide +kernel
theorem dX7_init_28 : decode cX7_init 28 = .ok (.putfield 19, 3) := by decide +kernel
theorem dX7_init_31 : decode cX7_init 31 = .ok (.aload_n 0, 1) := by decide +kernel
theorem dX7_init_32 : decode cX7_init 32 = .ok (.sipush 2560, 3) := by decide +kernel
theorem dX7_init_35 : decode cX7_init 35 = .ok (.newarray .int, 2) := by decide +kernel
theorem dX7_init_37 : decode cX7_init 37 = .ok (.putfield 22, 3) := by decide +kernel
theorem dX7_init_40 : decode cX7_init 40 = .ok (.aload_n 0, 1) := by decide +kernel
theorem dX7_init_41 : decode cX7_init 41 = .ok (.sipush 2560, 3) := by decide +kernel
theorem dX7_init_44 : decode cX7_init 44 = .ok (.newarray .boolean, 2) := by decide +kernel
theorem dX7_init_46 : decode cX7_init 46 = .ok (.putfield 25, 3) := by decide +kernel
theorem dX7_init_49 : decode cX7_init 49 = .ok (.aload_n 0, 1) := by decide +kernel
theorem dX7_init_50 : decode cX7_init 50 = .ok (.sipush 4096, 3) := by decide +kernel
theorem dX7_init_53 : decode cX7_init 53 = .ok (.newarray .int, 2) := by decide +kernel
theorem dX7_init_55 : decode cX7_init 55 = .ok (.putfield 29, 3) := by decide +kernel
theorem dX7_init_58 : decode cX7_init 58 = .ok (.aload_n 0, 1) := by decide +kernel
theorem dX7_init_59 : decode cX7_init 59 = .ok (.bipush 10, 2) := by decide +kernel
theorem dX7_init_61 : decode cX7_init 61 = .ok (.newarray .int, 2) := by decide +kernel
theorem dX7_init_63 : decode cX7_init 63 = .ok (.putfield 32, 3) := by decide +kernel
theorem dX7_init_66 : decode cX7_init 66 = .ok (.aload_n 0, 1) := by decide +kernel
theorem dX7_init_67 : decode cX7_init 67 = .ok (.iconst 0, 1) := by decide +kernel
theorem dX7_init_68 : decode cX7_init 68 = .ok (.putfield 35, 3) := by decide +kernel
theorem dX7_init_71 : decode cX7_init 71 = .ok (.aload_n 0, 1) := by decide +kernel
theorem dX7_init_72 : decode cX7_init 72 = .ok (.iconst 0, 1) := by decide +kernel
theorem dX7_init_73 : decode cX7_init 73 = .ok (.putfield 39, 3) := by decide +kernel
theorem dX7_init_76 : decode cX7_init 76 = .ok (.aload_n 0, 1) := by decide +kernel
theorem dX7_init_77 : decode cX7_init 77 = .ok (.iconst 0, 1) := by decide +kernel
theorem dX7_init_78 : decode cX7_init 78 = .ok (.putfield 42, 3) := by decide +kernel
theorem dX7_init_81 : decode cX7_init 81 = .ok (.aload_n 0, 1) := by decide +kernel
theorem dX7_init_82 : decode cX7_init 82 = .ok (.iconst 0, 1) := by decide +kernel
theorem dX7_init_83 : decode cX7_init 83 = .ok (.putfield 45, 3) := by decide +kernel
theorem dX7_init_86 : decode cX7_init 86 = .ok (.return_, 1) := by decide +kernel
theorem dX7_lay_0 : decode cX7_lay 0 = .ok (.aload_n 0, 1) := by decide +kernel
theorem dX7_lay_1 : decode cX7_lay 1 = .ok (.getfield 45, 3) := by decide +kernel
theorem dX7_lay_4 : decode cX7_lay 4 = .ok (.ifCond .eq 19, 3) := by decide +kernel
theorem dX7_lay_7 : decode cX7_lay 7 = .ok (.iload_n 1, 1) := by decide +kernel
theorem dX7_lay_8 : decode cX7_lay 8 = .ok (.aload_n 0, 1) := by decide +kernel
theorem dX7_lay_9 : decode cX7_lay 9 = .ok (.getfield 35, 3) := by decide +kernel
theorem dX7_lay_12 : decode cX7_lay 12 = .ok (.if_icmp .ne 11, 3) := by decide +kernel
theorem dX7_lay_15 : decode cX7_lay 15 = .ok (.iload_n 2, 1) := by decide +kernel
theorem dX7_lay_16 : decode cX7_lay 16 = .ok (.aload_n 0, 1) := by decide +kernel
theorem dX7_lay_17 : decode cX7_lay 17 = .ok (.getfield 39, 3) := by decide +kernel
theorem dX7_lay_20 : decode cX7_lay 20 = .ok (.if_icmp .eq 9, 3) := by decide +kernel
theorem dX7_lay_23 : decode cX7_lay 23 = .ok (.aload_n 0, 1) := by decide +kernel
theorem dX7_lay_24 : decode cX7_lay 24 = .ok (.iload_n 1, 1) := by decide +kernel
theorem dX7_lay_25 : decode cX7_lay 25 = .ok (.iload_n 2, 1) := by decide +kernel
theorem dX7_lay_26 : decode cX7_lay 26 = .ok (.invokevirtual 48, 3) := by decide +kernel
theorem dX7_lay_29 : decode cX7_lay 29 = .ok (.iload_n 3, 1) := by decide +kernel
theorem dX7_lay_30 : decode cX7_lay 30 = .ok (.bipush 8, 2) := by decide +kernel
theorem dX7_lay_32 : decode cX7_lay 32 = .ok (.invokestatic 52, 3) := by decide +kernel
theorem dX7_lay_35 : decode cX7_lay 35 = .ok (.istore 4, 2) := by decide +kernel
theorem dX7_lay_37 : decode cX7_lay 37 = .ok (.aload_n 0, 1) := by decide +kernel
theorem dX7_lay_38 : decode cX7_lay 38 = .ok (.getfield 42, 3) := by decide +kernel
theorem dX7_lay_41 : decode cX7_lay 41 = .ok (.istore 5, 2) := by decide +kernel
theorem dX7_lay_43 : decode cX7_lay 43 = .ok (.iload 5, 2) := by decide +kernel
theorem dX7_lay_45 : decode cX7_lay 45 = .ok (.iload 4, 2) := by decide +kernel
theorem dX7_lay_47 : decode cX7_lay 47 = .ok (.if_icmp .ge 13, 3) := by decide +kernel
theorem dX7_lay_50 : decode cX7_lay 50 = .ok (.aload_n 0, 1) := by decide +kernel
theorem dX7_lay_51 : decode cX7_lay 51 = .ok (.invokevirtual 58, 3) := by decide +kernel
theorem dX7_lay_54 : decode cX7_lay 54 = .ok (.iinc 5 1, 3) := by decide +kernel
theorem dX7_lay_57 : decode cX7_lay 57 = .ok (.goto (-14), 3) := by decide +kernel
theorem dX7_lay_60 : decode cX7_lay 60 = .ok (.return_, 1) := by decide +kernel
theorem dX7_begin_0 : decode cX7_begin 0 = .ok (.aload_n 0, 1) := by decide +kernel
theorem dX7_begin_1 : decode cX7_begin 1 = .ok (.iload_n 1, 1) := by decide +kernel
theorem dX7_begin_2 : decode cX7_begin 2 = .ok (.putfield 35, 3) := by decide +kernel
theorem dX7_begin_5 : decode cX7_begin 5 = .ok (.aload_n 0, 1) := by decide +kernel
theorem dX7_begin_6 : decode cX7_begin 6 = .ok (.iload_n 2, 1) := by decide +kernel
theorem dX7_begin_7 : decode cX7_begin 7 = .ok (.putfield 39, 3) := by decide +kernel
theorem dX7_begin_10 : decode cX7_begin 10 = .ok (.aload_n 0, 1) := by decide +kernel
theorem dX7_begin_11 : decode cX7_begin 11 = .ok (.iconst 0, 1) := by decide +kernel
theorem dX7_begin_12 : decode cX7_begin 12 = .ok (.putfield 42, 3) := by decide +kernel
theorem dX7_begin_15 : decode cX7_begin 15 = .ok (.aload_n 0, 1) := by decide +kernel
theorem dX7_begin_16 : decode cX7_begin 16 = .ok (.getfield 11, 3) := by decide +kernel
theorem dX7_begin_19 : decode cX7_begin 19 = .ok (.iconst 0, 1) := by decide +kernel
theorem dX7_begin_20 : decode cX7_begin 20 = .ok (.lconst 0, 1) := by decide +kernel
theorem dX7_begin_21 : decode cX7_begin 21 = .ok (.lastore, 1) := by decide +kernel
theorem dX7_begin_22 : decode cX7_begin 22 = .ok (.aload_n 0, 1) := by decide +kernel
theorem dX7_begin_23 : decode cX7_begin 23 = .ok (.getfield 15, 3) := by decide +kernel
theorem dX7_begin_26 : decode cX7_begin 26 = .ok (.iconst 0, 1) := by decide +kernel
theorem dX7_begin_27 : decode cX7_begin 27 = .ok (.aload_n 0, 1) := by decide +kernel
theorem dX7_begin_28 : decode cX7_begin 28 = .ok (.getfield 39, 3) := by decide +kernel
theorem dX7_begin_31 : decode cX7_begin 31 = .ok (.iastore, 1) := by decide +kernel
theorem dX7_begin_32 : decode cX7_begin 32 = .ok (.aload_n 0, 1) := by decide +kernel
theorem dX7_begin_33 : decode cX7_begin 33 = .ok (.getfield 19, 3) := by decide +kernel
theorem dX7_begin_36 : decode cX7_begin 36 = .ok (.iconst 0, 1) := by decide +kernel
theorem dX7_begin_37 : decode cX7_begin 37 = .ok (.iconst 1, 1) := by decide +kernel
theorem dX7_begin_38 : decode cX7_begin 38 = .ok (.iastore, 1) := by decide +kernel
theorem dX7_begin_39 : decode cX7_begin 39 = .ok (.aload_n 0, 1) := by decide +kernel
theorem dX7_begin_40 : decode cX7_begin 40 = .ok (.getfield 22, 3) := by decide +kernel
theorem dX7_begin_43 : decode cX7_begin 43 = .ok (.iconst 0, 1) := by decide +kernel
theorem dX7_begin_44 : decode cX7_begin 44 = .ok (.iconst 0, 1) := by decide +kernel
theorem dX7_begin_45 : decode cX7_begin 45 = .ok (.iastore, 1) := by decide +kernel
theorem dX7_begin_46 : decode cX7_begin 46 = .ok (.aload_n 0, 1) := by decide +kernel
theorem dX7_begin_47 : decode cX7_begin 47 = .ok (.getfield 25, 3) := by decide +kernel
theorem dX7_begin_50 : decode cX7_begin 50 = .ok (.iconst 0, 1) := by decide +kernel
theorem dX7_begin_51 : decode cX7_begin 51 = .ok (.iconst 0, 1) := by decide +kernel
theorem dX7_begin_52 : decode cX7_begin 52 = .ok (.bastore, 1) := by decide +kernel
theorem dX7_begin_53 : decode cX7_begin 53 = .ok (.aload_n 0, 1) := by decide +kernel
theorem dX7_begin_54 : decode cX7_begin 54 = .ok (.iconst 1, 1) := by decide +kernel
theorem dX7_begin_55 : decode cX7_begin 55 = .ok (.putfield 45, 3) := by decide +kernel
theorem dX7_begin_58 : decode cX7_begin 58 = .ok (.aload_n 0, 1) := by decide +kernel
theorem dX7_begin_59 : decode cX7_begin 59 = .ok (.getfield 32, 3) := by decide +kernel
theorem dX7_begin_62 : decode cX7_begin 62 = .ok (.iconst 0, 1) := by decide +kernel
theorem dX7_begin_63 : decode cX7_begin 63 = .ok (.iconst 0, 1) := by decide +kernel
theorem dX7_begin_64 : decode cX7_begin 64 = .ok (.iastore, 1) := by decide +kernel
theorem dX7_begin_65 : decode cX7_begin 65 = .ok (.aload_n 0, 1) := by decide +kernel
theorem dX7_begin_66 : decode cX7_begin 66 = .ok (.getfield 32, 3) := by decide +kernel
theorem dX7_begin_69 : decode cX7_begin 69 = .ok (.iconst 1, 1) := by decide +kernel
theorem dX7_begin_70 : decode cX7_begin 70 = .ok (.iconst 1, 1) := by decide +kernel
theorem dX7_begin_71 : decode cX7_begin 71 = .ok (.iastore, 1) := by decide +kernel
theorem dX7_begin_72 : decode cX7_begin 72 = .ok (.aload_n 0, 1) := by decide +kernel
theorem dX7_begin_73 : decode cX7_begin 73 = .ok (.getfield 29, 3) := by decide +kernel
theorem dX7_begin_76 : decode cX7_begin 76 = .ok (.iconst 0, 1) := by decide +kernel
theorem dX7_begin_77 : decode cX7_begin 77 = .ok (.invokestatic 61, 3) := by decide +kernel
theorem dX7_begin_80 : decode cX7_begin 80 = .ok (.return_, 1) := by decide +kernel
theorem dX7_first_0 : decode cX7_first 0 = .ok (.aload_n 0, 1) := by decide +kernel
theorem dX7_first_1 : decode cX7_first 1 = .ok (.getfield 32, 3) := by decide +kernel
theorem dX7_first_4 : decode cX7_first 4 = .ok (.iconst 0, 1) := by decide +kernel
theorem dX7_first_5 : decode cX7_first 5 = .ok (.iload_n 1, 1) := by decide +kernel
theorem dX7_first_6 : decode cX7_first 6 = .ok (.aload_n 0, 1) := by decide +kernel
theorem dX7_first_7 : decode cX7_first 7 = .ok (.getfield 42, 3) := by decide +kernel
theorem dX7_first_10 : decode cX7_first 10 = .ok (.invokestatic 52, 3) := by decide +kernel
theorem dX7_first_13 : decode cX7_first 13 = .ok (.invokestatic 67, 3) := by decide +kernel
theorem dX7_first_16 : decode cX7_first 16 = .ok (.iaload, 1) := by decide +kernel
theorem dX7_first_17 : decode cX7_first 17 = .ok (.ireturn, 1) := by decide +kernel
theorem dX7_end_0 : decode cX7_end 0 = .ok (.aload_n 0, 1) := by decide +kernel
theorem dX7_end_1 : decode cX7_end 1 = .ok (.getfield 32, 3) := by decide +kernel
theorem dX7_end_4 : decode cX7_end 4 = .ok (.iconst 0, 1) := by decide +kernel
theorem dX7_end_5 : decode cX7_end 5 = .ok (.iload_n 1, 1) := by decide +kernel
theorem dX7_end_6 : decode cX7_end 6 = .ok (.aload_n 0, 1) := by decide +kernel
theorem dX7_end_7 : decode cX7_end 7 = .ok (.getfield 42, 3) := by decide +kernel
theorem dX7_end_10 : decode cX7_end 10 = .ok (.invokestatic 52, 3) := by decide +kernel
theorem dX7_end_13 : decode cX7_end 13 = .ok (.invokestatic 67, 3) := by decide +kernel
theorem dX7_end_16 : decode cX7_end 16 = .ok (.iconst 1, 1) := by decide +kernel
theorem dX7_end_17 : decode cX7_end 17 = .ok (.iadd, 1) := by decide +kernel
theorem dX7_end_18 : decode cX7_end 18 = .ok (.iaload, 1) := by decide +kernel
theorem dX7_end_19 : decode cX7_end 19 = .ok (.ireturn, 1) := by decide +kernel
theorem dX7_layMinute_0 : decode cX7_layMinute 0 = .ok (.aload_n 0, 1) := by decide +kernel
theorem dX7_layMinute_1 : decode cX7_layMinute 1 = .ok (.aload_n 0, 1) := by decide +kernel
theorem dX7_layMinute_2 : decode cX7_layMinute 2 = .ok (.getfield 42, 3) := by decide +kernel
theorem dX7_layMinute_5 : decode cX7_layMinute 5 = .ok (.invokevirtual 70, 3) := by decide +kernel
theorem dX7_layMinute_8 : decode cX7_layMinute 8 = .ok (.istore_n 1, 1) := by decide +kernel
theorem dX7_layMinute_9 : decode cX7_layMinute 9 = .ok (.aload_n 0, 1) := by decide +kernel
theorem dX7_layMinute_10 : decode cX7_layMinute 10 = .ok (.aload_n 0, 1) := by decide +kernel
theorem dX7_layMinute_11 : decode cX7_layMinute 11 = .ok (.getfield 42, 3) := by decide +kernel
theorem dX7_layMinute_14 : decode cX7_layMinute 14 = .ok (.invokevirtual 74, 3) := by decide +kernel
theorem dX7_layMinute_17 : decode cX7_layMinute 17 = .ok (.istore_n 2, 1) := by decide +kernel
theorem dX7_layMinute_18 : decode cX7_layMinute 18 = .ok (.iload_n 2, 1) := by decide +kernel
theorem dX7_layMinute_19 : decode cX7_layMinute 19 = .ok (.iload_n 1, 1) := by decide +kernel
theorem dX7_layMinute_20 : decode cX7_layMinute 20 = .ok (.if_icmp .ge 52, 3) := by decide +kernel
theorem dX7_layMinute_23 : decode cX7_layMinute 23 = .ok (.aload_n 0, 1) := by decide +kernel
theorem dX7_layMinute_24 : decode cX7_layMinute 24 = .ok (.iload_n 2, 1) := by decide +kernel
theorem dX7_layMinute_25 : decode cX7_layMinute 25 = .ok (.aload_n 0, 1) := by decide +kernel
theorem dX7_layMinute_26 : decode cX7_layMinute 26 = .ok (.getfield 15, 3) := by decide +kernel
theorem dX7_layMinute_29 : decode cX7_layMinute 29 = .ok (.iload_n 2, 1) := by decide +kernel
theorem dX7_layMinute_30 : decode cX7_layMinute 30 = .ok (.iaload, 1) := by decide +kernel
theorem dX7_layMinute_31 : decode cX7_layMinute 31 = .ok (.iconst 0, 1) := by decide +kernel
theorem dX7_layMinute_32 : decode cX7_layMinute 32 = .ok (.iload_n 1, 1) := by decide +kernel
theorem dX7_layMinute_33 : decode cX7_layMinute 33 = .ok (.invokevirtual 77, 3) := by decide +kernel
theorem dX7_layMinute_36 : decode cX7_layMinute 36 = .ok (.aload_n 0, 1) := by decide +kernel
theorem dX7_layMinute_37 : decode cX7_layMinute 37 = .ok (.iload_n 2, 1) := by decide +kernel
theorem dX7_layMinute_38 : decode cX7_layMinute 38 = .ok (.aload_n 0, 1) := by decide +kernel
theorem dX7_layMinute_39 : decode cX7_layMinute 39 = .ok (.getfield 15, 3) := by decide +kernel
theorem dX7_layMinute_42 : decode cX7_layMinute 42 = .ok (.iload_n 2, 1) := by decide +kernel
theorem dX7_layMinute_43 : decode cX7_layMinute 43 = .ok (.iaload, 1) := by decide +kernel
theorem dX7_layMinute_44 : decode cX7_layMinute 44 = .ok (.iconst 1, 1) := by decide +kernel
theorem dX7_layMinute_45 : decode cX7_layMinute 45 = .ok (.isub, 1) := by decide +kernel
theorem dX7_layMinute_46 : decode cX7_layMinute 46 = .ok (.iconst 1, 1) := by decide +kernel
theorem dX7_layMinute_47 : decode cX7_layMinute 47 = .ok (.iload_n 1, 1) := by decide +kernel
theorem dX7_layMinute_48 : decode cX7_layMinute 48 = .ok (.invokevirtual 77, 3) := by decide +kernel
