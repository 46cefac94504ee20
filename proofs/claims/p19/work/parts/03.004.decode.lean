theorem dX6_readValue_24 : decode cX6_readValue 24 = .ok (.iload_n 2, 1) := by decide +kernel
theorem dX6_readValue_25 : decode cX6_readValue 25 = .ok (.iload_n 1, 1) := by decide +kernel
theorem dX6_readValue_26 : decode cX6_readValue 26 = .ok (.if_icmp .ge 30, 3) := by decide +kernel
theorem dX6_readValue_29 : decode cX6_readValue 29 = .ok (.aload_n 0, 1) := by decide +kernel
theorem dX6_readValue_30 : decode cX6_readValue 30 = .ok (.aload_n 0, 1) := by decide +kernel
theorem dX6_readValue_31 : decode cX6_readValue 31 = .ok (.getfield 41, 3) := by decide +kernel
theorem dX6_readValue_34 : decode cX6_readValue 34 = .ok (.bipush 10, 2) := by decide +kernel
theorem dX6_readValue_36 : decode cX6_readValue 36 = .ok (.imul, 1) := by decide +kernel
theorem dX6_readValue_37 : decode cX6_readValue 37 = .ok (.aload_n 0, 1) := by decide +kernel
theorem dX6_readValue_38 : decode cX6_readValue 38 = .ok (.getfield 25, 3) := by decide +kernel
theorem dX6_readValue_41 : decode cX6_readValue 41 = .ok (.iload_n 2, 1) := by decide +kernel
theorem dX6_readValue_42 : decode cX6_readValue 42 = .ok (.baload, 1) := by decide +kernel
theorem dX6_readValue_43 : decode cX6_readValue 43 = .ok (.iadd, 1) := by decide +kernel
theorem dX6_readValue_44 : decode cX6_readValue 44 = .ok (.bipush 48, 2) := by decide +kernel
theorem dX6_readValue_46 : decode cX6_readValue 46 = .ok (.isub, 1) := by decide +kernel
theorem dX6_readValue_47 : decode cX6_readValue 47 = .ok (.putfield 41, 3) := by decide +kernel
theorem dX6_readValue_50 : decode cX6_readValue 50 = .ok (.iinc 2 1, 3) := by decide +kernel
theorem dX6_readValue_53 : decode cX6_readValue 53 = .ok (.goto (-29), 3) := by decide +kernel
theorem dX6_readValue_56 : decode cX6_readValue 56 = .ok (.return_, 1) := by decide +kernel
theorem dX7_init_0 : decode cX7_init 0 = .ok (.aload_n 0, 1) := by decide +kernel
theorem dX7_init_1 : decode cX7_init 1 = .ok (.invokespecial 3, 3) := by decide +kernel
theorem dX7_init_4 : decode cX7_init 4 = .ok (.aload_n 0, 1) := by decide +kernel
theorem dX7_init_5 : decode cX7_init 5 = .ok (.sipush 2560, 3) := by decide +kernel
theorem dX7_init_8 : decode cX7_init 8 = .ok (.newarray .long, 2) := by decide +kernel
theorem dX7_init_10 : decode cX7_init 10 = .ok (.putfield 11, 3) := by decide +kernel
theorem dX7_init_13 : decode cX7_init 13 = .ok (.aload_n 0, 1) := by decide +kernel
theorem dX7_init_14 : decode cX7_init 14 = .ok (.sipush 2560, 3) := by decide +kernel
theorem dX7_init_17 : decode cX7_init 17 = .ok (.newarray .int, 2) := by decide +kernel
theorem dX7_init_19 : decode cX7_init 19 = .ok (.putfield 15, 3) := by decide +kernel
theorem dX7_init_22 : decode cX7_init 22 = .ok (.aload_n 0, 1) := by decide +kernel
theorem dX7_init_23 : decode cX7_init 23 = .ok (.sipush 2560, 3) := by decide +kernel
theorem dX7_init_26 : decode cX7_init 26 = .ok (.newarray .int, 2) := by decide +kernel
theorem dX7_init_28 : decode cX7_init 28 = .ok (.putfield 19, 3) := by decide +kernel
theorem dX7_init_31 : decode cX7_init 31 = .ok (.aload_n 0, 1) := by decide +kernel
theorem dX7_init_32 : decode cX7_init 32 = .ok (.sipush 2560, 3) := by decide +kernel
theorem dX7_init_35 : decode cX7_init 35 = .ok (.newarray .int, 2) := by decide +kernel
theorem dX7_init_37 : decode cX7_init 37 = .ok (.putfield 22, 3) := by decide +kernel
theorem dX7_init_40 : decode cX7_init 40 = .ok (.aload_n 0, 1) := by decide +kernel
theorem dX7_init_41 : decode cX7_init 41 = .ok (.sipush 2560, 3) := by decide +kernel
theorem dX7_init_44 : decode cX7_init 44 = .ok (.newarray .boolean, 2) := by decide +kernel
theorem dX7_init_46 : decode cX7_init 46 = .ok (.putfield 25, 3) := by decide +kernel
theorem dX7_init_49 : decode cX7_init 49 = .ok (.aload_n 0, 1) := by decide +kernel
theorem dX7_init_50 : decode cX7_init 50 = .ok (.sipush 4096, 3) := by decide +kernel
theorem dX7_init_53 : decode cX7_init 53 = .ok (.newarray .int, 2) := by decide +kernel
theorem dX7_init_55 : decode cX7_init 55 = .ok (.putfield 29, 3) := by decide +kernel
theorem dX7_init_58 : decode cX7_init 58 = .ok (.aload_n 0, 1) := by decide +kernel
theorem dX7_init_59 : decode cX7_init 59 = .ok (.bipush 10, 2) := by decide +kernel
theorem dX7_init_61 : decode cX7_init 61 = .ok (.newarray .int, 2) := by decide +kernel
theorem dX7_init_63 : decode cX7_init 63 = .ok (.putfield 32, 3) := by decide +kernel
theorem dX7_init_66 : decode cX7_init 66 = .ok (.aload_n 0, 1) := by decide +kernel
theorem dX7_init_67 : decode cX7_init 67 = .ok (.iconst 0, 1) := by decide +kernel
theorem dX7_init_68 : decode cX7_init 68 = .ok (.putfield 35, 3) := by decide +kernel
theorem dX7_init_71 : decode cX7_init 71 = .ok (.aload_n 0, 1) := by decide +kernel
theorem dX7_init_72 : decode cX7_init 72 = .ok (.iconst 0, 1) := by decide +kernel
theorem dX7_init_73 : decode cX7_init 73 = .ok (.putfield 39, 3) := by decide +kernel
theorem dX7_init_76 : decode cX7_init 76 = .ok (.aload_n 0, 1) := by decide +kernel
theorem dX7_init_77 : decode cX7_init 77 = .ok (.iconst 0, 1) := by decide +kernel
theorem dX7_init_78 : decode cX7_init 78 = .ok (.putfield 42, 3) := by decide +kernel
theorem dX7_init_81 : decode cX7_init 81 = .ok (.aload_n 0, 1) := by decide +kernel
theorem dX7_init_82 : decode cX7_init 82 = .ok (.iconst 0, 1) := by decide +kernel
theorem dX7_init_83 : decode cX7_init 83 = .ok (.putfield 45, 3) := by decide +kernel
theorem dX7_init_86 : decode cX7_init 86 = .ok (.return_, 1) := by decide +kernel
theorem dX7_lay_0 : decode cX7_lay 0 = .ok (.aload_n 0, 1) := by decide +kernel
theorem dX7_lay_1 : decode cX7_lay 1 = .ok (.getfield 45, 3) := by decide +kernel
theorem dX7_lay_4 : decode cX7_lay 4 = .ok (.ifCond .eq 19, 3) := by decide +kernel
theorem dX7_lay_7 : decode cX7_lay 7 = .ok (.iload_n 1, 1) := by decide +kernel
theorem dX7_lay_8 : decode cX7_lay 8 = .ok (.aload_n 0, 1) := by decide +kernel
theorem dX7_lay_9 : decode cX7_lay 9 = .ok (.getfield 35, 3) := by decide +kernel
theorem dX7_lay_12 : decode cX7_lay 12 = .ok (.if_icmp .ne 11, 3) := by decide +kernel
theorem dX7_lay_15 : decode cX7_lay 15 = .ok (.iload_n 2, 1) := by decide +kernel
theorem dX7_lay_16 : decode cX7_lay 16 = .ok (.aload_n 0, 1) := by decide +kernel
theorem dX7_lay_17 : decode cX7_lay 17 = .ok (.getfield 39, 3) := by decide +kernel
theorem dX7_lay_20 : decode cX7_lay 20 = .ok (.if_icmp .eq 9, 3) := by decide +kernel
theorem dX7_lay_23 : decode cX7_lay 23 = .ok (.aload_n 0, 1) := by decide +kernel
theorem dX7_lay_24 : decode cX7_lay 24 = .ok (.iload_n 1, 1) := by decide +kernel
theorem dX7_lay_25 : decode cX7_lay 25 = .ok (.iload_n 2, 1) := by decide +kernel
theorem dX7_lay_26 : decode cX7_lay 26 = .ok (.invokevirtual 48, 3) := by decide +kernel
theorem dX7_lay_29 : decode cX7_lay 29 = .ok (.iload_n 3, 1) := by decide +kernel
theorem dX7_lay_30 : decode cX7_lay 30 = .ok (.bipush 8, 2) := by decide +kernel
theorem dX7_lay_32 : decode cX7_lay 32 = .ok (.invokestatic 52, 3) := by decide +kernel
theorem dX7_lay_35 : decode cX7_lay 35 = .ok (.istore 4, 2) := by decide +kernel
theorem dX7_lay_37 : decode cX7_lay 37 = .ok (.aload_n 0, 1) := by decide +kernel
theorem dX7_lay_38 : decode cX7_lay 38 = .ok (.getfield 42, 3) := by decide +kernel
theorem dX7_lay_41 : decode cX7_lay 41 = .ok (.istore 5, 2) := by decide +kernel
theorem dX7_lay_43 : decode cX7_lay 43 = .ok (.iload 5, 2) := by decide +kernel
theorem dX7_lay_45 : decode cX7_lay 45 = .ok (.iload 4, 2) := by decide +kernel
theorem dX7_lay_47 : decode cX7_lay 47 = .ok (.if_icmp .ge 13, 3) := by decide +kernel
theorem dX7_lay_50 : decode cX7_lay 50 = .ok (.aload_n 0, 1) := by decide +kernel
theorem dX7_lay_51 : decode cX7_lay 51 = .ok (.invokevirtual 58, 3) := by decide +kernel
theorem dX7_lay_54 : decode cX7_lay 54 = .ok (.iinc 5 1, 3) := by decide +kernel
theorem dX7_lay_57 : decode cX7_lay 57 = .ok (.goto (-14), 3) := by decide +kernel
theorem dX7_lay_60 : decode cX7_lay 60 = .ok (.return_, 1) := by decide +kernel
theorem dX7_begin_0 : decode cX7_begin 0 = .ok (.aload_n 0, 1) := by decide +kernel
theorem dX7_begin_1 : decode cX7_begin 1 = .ok (.iload_n 1, 1) := by decide +kernel
theorem dX7_begin_2 : decode cX7_begin 2 = .ok (.putfield 35, 3) := by decide +kernel
theorem dX7_begin_5 : decode cX7_begin 5 = .ok (.aload_n 0, 1) := by decide +kernel
theorem dX7_begin_6 : decode cX7_begin 6 = .ok (.iload_n 2, 1) := by decide +kernel
theorem dX7_begin_7 : decode cX7_begin 7 = .ok (.putfield 39, 3) := by decide +kernel
theorem dX7_begin_10 : decode cX7_begin 10 = .ok (.aload_n 0, 1) := by decide +kernel
theorem dX7_begin_11 : decode cX7_begin 11 = .ok (.iconst 0, 1) := by decide +kernel
theorem dX7_begin_12 : decode cX7_begin 12 = .ok (.putfield 42, 3) := by decide +kernel
theorem dX7_begin_15 : decode cX7_begin 15 = .ok (.aload_n 0, 1) := by decide +kernel
theorem dX7_begin_16 : decode cX7_begin 16 = .ok (.getfield 11, 3) := by decide +kernel
theorem dX7_begin_19 : decode cX7_begin 19 = .ok (.iconst 0, 1) := by decide +kernel
theorem dX7_begin_20 : decode cX7_begin 20 = .ok (.lconst 0, 1) := by decide +kernel
theorem dX7_begin_21 : decode cX7_begin 21 = .ok (.lastore, 1) := by decide +kernel
theorem dX7_begin_22 : decode cX7_begin 22 = .ok (.aload_n 0, 1) := by decide +kernel
theorem dX7_begin_23 : decode cX7_begin 23 = .ok (.getfield 15, 3) := by decide +kernel
theorem dX7_begin_26 : decode cX7_begin 26 = .ok (.iconst 0, 1) := by decide +kernel
theorem dX7_begin_27 : decode cX7_begin 27 = .ok (.aload_n 0, 1) := by decide +kernel
theorem dX7_begin_28 : decode cX7_begin 28 = .ok (.getfield 39, 3) := by decide +kernel
theorem dX7_begin_31 : decode cX7_begin 31 = .ok (.iastore, 1) := by decide +kernel
theorem dX7_begin_32 : decode cX7_begin 32 = .ok (.aload_n 0, 1) := by decide +kernel
theorem dX7_begin_33 : decode cX7_begin 33 = .ok (.getfield 19, 3) := by decide +kernel
theorem dX7_begin_36 : decode cX7_begin 36 = .ok (.iconst 0, 1) := by decide +kernel
theorem dX7_begin_37 : decode cX7_begin 37 = .ok (.iconst 1, 1) := by decide +kernel
theorem dX7_begin_38 : decode cX7_begin 38 = .ok (.iastore, 1) := by decide +kernel
theorem dX7_begin_39 : decode cX7_begin 39 = .ok (.aload_n 0, 1) := by decide +kernel
theorem dX7_begin_40 : decode cX7_begin 40 = .ok (.getfield 22, 3) := by decide +kernel
theorem dX7_begin_43 : decode cX7_begin 43 = .ok (.iconst 0, 1) := by decide +kernel
theorem dX7_begin_44 : decode cX7_begin 44 = .ok (.iconst 0, 1) := by decide +kernel
theorem dX7_begin_45 : decode cX7_begin 45 = .ok (.iastore, 1) := by decide +kernel
theorem dX7_begin_46 : decode cX7_begin 46 = .ok (.aload_n 0, 1) := by decide +kernel
theorem dX7_begin_47 : decode cX7_begin 47 = .ok (.getfield 25, 3) := by decide +kernel
theorem dX7_begin_50 : decode cX7_begin 50 = .ok (.iconst 0, 1) := by decide +kernel
theorem dX7_begin_51 : decode cX7_begin 51 = .ok (.iconst 0, 1) := by decide +kernel
theorem dX7_begin_52 : decode cX7_begin 52 = .ok (.bastore, 1) := by decide +kernel
theorem dX7_begin_53 : decode cX7_begin 53 = .ok (.aload_n 0, 1) := by decide +kernel
theorem dX7_begin_54 : decode cX7_begin 54 = .ok (.iconst 1, 1) := by decide +kernel
theorem dX7_begin_55 : decode cX7_begin 55 = .ok (.putfield 45, 3) := by decide +kernel
theorem dX7_begin_58 : decode cX7_begin 58 = .ok (.aload_n 0, 1) := by decide +kernel
theorem dX7_begin_59 : decode cX7_begin 59 = .ok (.getfield 32, 3) := by decide +kernel
theorem dX7_begin_62 : decode cX7_begin 62 = .ok (.iconst 0, 1) := by decide +kernel
theorem dX7_begin_63 : decode cX7_begin 63 = .ok (.iconst 0, 1) := by decide +kernel
theorem dX7_begin_64 : decode cX7_begin 64 = .ok (.iastore, 1) := by decide +kernel
theorem dX7_begin_65 : decode cX7_begin 65 = .ok (.aload_n 0, 1) := by decide +kernel
theorem dX7_begin_66 : decode cX7_begin 66 = .ok (.getfield 32, 3) := by decide +kernel
theorem dX7_begin_69 : decode cX7_begin 69 = .ok (.iconst 1, 1) := by decide +kernel
theorem dX7_begin_70 : decode cX7_begin 70 = .ok (.iconst 1, 1) := by decide +kernel
theorem dX7_begin_71 : decode cX7_begin 71 = .ok (.iastore, 1) := by decide +kernel
theorem dX7_begin_72 : decode cX7_begin 72 = .ok (.aload_n 0, 1) := by decide +kernel
theorem dX7_begin_73 : decode cX7_begin 73 = .ok (.getfield 29, 3) := by decide +kernel
theorem dX7_begin_76 : decode cX7_begin 76 = .ok (.iconst 0, 1) := by decide +kernel
theorem dX7_begin_77 : decode cX7_begin 77 = .ok (.invokestatic 61, 3) := by decide +kernel
theorem dX7_begin_80 : decode cX7_begin 80 = .ok (.return_, 1) := by decide +kernel
theorem dX7_first_0 : decode cX7_first 0 = .ok (.aload_n 0, 1) := by decide +kernel
theorem dX7_first_1 : decode cX7_first 1 = .ok (.getfield 32, 3) := by decide +kernel
theorem dX7_first_4 : decode cX7_first 4 = .ok (.iconst 0, 1) := by decide +kernel
theorem dX7_first_5 : decode cX7_first 5 = .ok (.iload_n 1, 1) := by decide +kernel
theorem dX7_first_6 : decode cX7_first 6 = .ok (.aload_n 0, 1) := by decide +kernel
theorem dX7_first_7 : decode cX7_first 7 = .ok (.getfield 42, 3) := by decide +kernel
theorem dX7_first_10 : decode cX7_first 10 = .ok (.invokestatic 52, 3) := by decide +kernel
theorem dX7_first_13 : decode cX7_first 13 = .ok (.invokestatic 67, 3) := by decide +kernel
theorem dX7_first_16 : decode cX7_first 16 = .ok (.iaload, 1) := by decide +kernel
theorem dX7_first_17 : decode cX7_first 17 = .ok (.ireturn, 1) := by decide +kernel
theorem dX7_end_0 : decode cX7_end 0 = .ok (.aload_n 0, 1) := by decide +kernel
theorem dX7_end_1 : decode cX7_end 1 = .ok (.getfield 32, 3) := by decide +kernel
theorem dX7_end_4 : decode cX7_end 4 = .ok (.iconst 0, 1) := by decide +kernel
theorem dX7_end_5 : decode cX7_end 5 = .ok (.iload_n 1, 1) := by decide +kernel
theorem dX7_end_6 : decode cX7_end 6 = .ok (.aload_n 0, 1) := by decide +kernel
theorem dX7_end_7 : decode cX7_end 7 = .ok (.getfield 42, 3) := by decide +kernel
theorem dX7_end_10 : decode cX7_end 10 = .ok (.invokestatic 52, 3) := by decide +kernel
theorem dX7_end_13 : decode cX7_end 13 = .ok (.invokestatic 67, 3) := by decide +kernel
theorem dX7_end_16 : decode cX7_end 16 = .ok (.iconst 1, 1) := by decide +kernel
theorem dX7_end_17 : decode cX7_end 17 = .ok (.iadd, 1) := by decide +kernel
theorem dX7_end_18 : decode cX7_end 18 = .ok (.iaload, 1) := by decide +kernel
theorem dX7_end_19 : decode cX7_end 19 = .ok (.ireturn, 1) := by decide +kernel
theorem dX7_layMinute_0 : decode cX7_layMinute 0 = .ok (.aload_n 0, 1) := by decide +kernel
theorem dX7_layMinute_1 : decode cX7_layMinute 1 = .ok (.aload_n 0, 1) := by decide +kernel
theorem dX7_layMinute_2 : decode cX7_layMinute 2 = .ok (.getfield 42, 3) := by decide +kernel
theorem dX7_layMinute_5 : decode cX7_layMinute 5 = .ok (.invokevirtual 70, 3) := by decide +kernel
theorem dX7_layMinute_8 : decode cX7_layMinute 8 = .ok (.istore_n 1, 1) := by decide +kernel
theorem dX7_layMinute_9 : decode cX7_layMinute 9 = .ok (.aload_n 0, 1) := by decide +kernel
theorem dX7_layMinute_10 : decode cX7_layMinute 10 = .ok (.aload_n 0, 1) := by decide +kernel
theorem dX7_layMinute_11 : decode cX7_layMinute 11 = .ok (.getfield 42, 3) := by decide +kernel
theorem dX7_layMinute_14 : decode cX7_layMinute 14 = .ok (.invokevirtual 74, 3) := by decide +kernel
theorem dX7_layMinute_17 : decode cX7_layMinute 17 = .ok (.istore_n 2, 1) := by decide +kernel
theorem dX7_layMinute_18 : decode cX7_layMinute 18 = .ok (.iload_n 2, 1) := by decide +kernel
theorem dX7_layMinute_19 : decode cX7_layMinute 19 = .ok (.iload_n 1, 1) := by decide +kernel
theorem dX7_layMinute_20 : decode cX7_layMinute 20 = .ok (.if_icmp .ge 52, 3) := by decide +kernel
theorem dX7_layMinute_23 : decode cX7_layMinute 23 = .ok (.aload_n 0, 1) := by decide +kernel
theorem dX7_layMinute_24 : decode cX7_layMinute 24 = .ok (.iload_n 2, 1) := by decide +kernel
theorem dX7_layMinute_25 : decode cX7_layMinute 25 = .ok (.aload_n 0, 1) := by decide +kernel
theorem dX7_layMinute_26 : decode cX7_layMinute 26 = .ok (.getfield 15, 3) := by decide +kernel
theorem dX7_layMinute_29 : decode cX7_layMinute 29 = .ok (.iload_n 2, 1) := by decide +kernel
theorem dX7_layMinute_30 : decode cX7_layMinute 30 = .ok (.iaload, 1) := by decide +kernel
theorem dX7_layMinute_31 : decode cX7_layMinute 31 = .ok (.iconst 0, 1) := by decide +kernel
theorem dX7_layMinute_32 : decode cX7_layMinute 32 = .ok (.iload_n 1, 1) := by decide +kernel
theorem dX7_layMinute_33 : decode cX7_layMinute 33 = .ok (.invokevirtual 77, 3) := by decide +kernel
theorem dX7_layMinute_36 : decode cX7_layMinute 36 = .ok (.aload_n 0, 1) := by decide +kernel
theorem dX7_layMinute_37 : decode cX7_layMinute 37 = .ok (.iload_n 2, 1) := by decide +kernel
theorem dX7_layMinute_38 : decode cX7_layMinute 38 = .ok (.aload_n 0, 1) := by decide +kernel
theorem dX7_layMinute_39 : decode cX7_layMinute 39 = .ok (.getfield 15, 3) := by decide +kernel
theorem dX7_layMinute_42 : decode cX7_layMinute 42 = .ok (.iload_n 2, 1) := by decide +kernel
theorem dX7_layMinute_43 : decode cX7_layMinute 43 = .ok (.iaload, 1) := by decide +kernel
theorem dX7_layMinute_44 : decode cX7_layMinute 44 = .ok (.iconst 1, 1) := by decide +kernel
theorem dX7_layMinute_45 : decode cX7_layMinute 45 = .ok (.isub, 1) := by decide +kernel
theorem dX7_layMinute_46 : decode cX7_layMinute 46 = .ok (.iconst 1, 1) := by decide +kernel
theorem dX7_layMinute_47 : decode cX7_layMinute 47 = .ok (.iload_n 1, 1) := by decide +kernel
theorem dX7_layMinute_48 : decode cX7_layMinute 48 = .ok (.invokevirtual 77, 3) := by decide +kernel
theorem dX7_layMinute_51 : decode cX7_layMinute 51 = .ok (.aload_n 0, 1) := by decide +kernel
theorem dX7_layMinute_52 : decode cX7_layMinute 52 = .ok (.iload_n 2, 1) := by decide +kernel
theorem dX7_layMinute_53 : decode cX7_layMinute 53 = .ok (.aload_n 0, 1) := by decide +kernel
theorem dX7_layMinute_54 : decode cX7_layMinute 54 = .ok (.getfield 15, 3) := by decide +kernel
theorem dX7_layMinute_57 : decode cX7_layMinute 57 = .ok (.iload_n 2, 1) := by decide +kernel
theorem dX7_layMinute_58 : decode cX7_layMinute 58 = .ok (.iaload, 1) := by decide +kernel
theorem dX7_layMinute_59 : decode cX7_layMinute 59 = .ok (.iconst 1, 1) := by decide +kernel
theorem dX7_layMinute_60 : decode cX7_layMinute 60 = .ok (.iadd, 1) := by decide +kernel
theorem dX7_layMinute_61 : decode cX7_layMinute 61 = .ok (.iconst 2, 1) := by decide +kernel
theorem dX7_layMinute_62 : decode cX7_layMinute 62 = .ok (.iload_n 1, 1) := by decide +kernel
theorem dX7_layMinute_63 : decode cX7_layMinute 63 = .ok (.invokevirtual 77, 3) := by decide +kernel
theorem dX7_layMinute_66 : decode cX7_layMinute 66 = .ok (.iinc 2 1, 3) := by decide +kernel
theorem dX7_layMinute_69 : decode cX7_layMinute 69 = .ok (.goto (-51), 3) := by decide +kernel
theorem dX7_layMinute_72 : decode cX7_layMinute 72 = .ok (.aload_n 0, 1) := by decide +kernel
theorem dX7_layMinute_73 : decode cX7_layMinute 73 = .ok (.dup, 1) := by decide +kernel
theorem dX7_layMinute_74 : decode cX7_layMinute 74 = .ok (.getfield 42, 3) := by decide +kernel
theorem dX7_layMinute_77 : decode cX7_layMinute 77 = .ok (.iconst 1, 1) := by decide +kernel
theorem dX7_layMinute_78 : decode cX7_layMinute 78 = .ok (.iadd, 1) := by decide +kernel
theorem dX7_layMinute_79 : decode cX7_layMinute 79 = .ok (.putfield 42, 3) := by decide +kernel
theorem dX7_layMinute_82 : decode cX7_layMinute 82 = .ok (.aload_n 0, 1) := by decide +kernel
theorem dX7_layMinute_83 : decode cX7_layMinute 83 = .ok (.getfield 32, 3) := by decide +kernel
theorem dX7_layMinute_86 : decode cX7_layMinute 86 = .ok (.aload_n 0, 1) := by decide +kernel
theorem dX7_layMinute_87 : decode cX7_layMinute 87 = .ok (.getfield 42, 3) := by decide +kernel
theorem dX7_layMinute_90 : decode cX7_layMinute 90 = .ok (.iconst 1, 1) := by decide +kernel
theorem dX7_layMinute_91 : decode cX7_layMinute 91 = .ok (.iadd, 1) := by decide +kernel
theorem dX7_layMinute_92 : decode cX7_layMinute 92 = .ok (.aload_n 0, 1) := by decide +kernel
theorem dX7_layMinute_93 : decode cX7_layMinute 93 = .ok (.getfield 45, 3) := by decide +kernel
theorem dX7_layMinute_96 : decode cX7_layMinute 96 = .ok (.iastore, 1) := by decide +kernel
theorem dX7_layMinute_97 : decode cX7_layMinute 97 = .ok (.return_, 1) := by decide +kernel
theorem dX7_arrive_0 : decode cX7_arrive 0 = .ok (.iload_n 2, 1) := by decide +kernel
theorem dX7_arrive_1 : decode cX7_arrive 1 = .ok (.ifCond .lt 17, 3) := by decide +kernel
theorem dX7_arrive_4 : decode cX7_arrive 4 = .ok (.iload_n 2, 1) := by decide +kernel
theorem dX7_arrive_5 : decode cX7_arrive 5 = .ok (.aload_n 0, 1) := by decide +kernel
theorem dX7_arrive_6 : decode cX7_arrive 6 = .ok (.getfield 35, 3) := by decide +kernel
theorem dX7_arrive_9 : decode cX7_arrive 9 = .ok (.if_icmp .ge 9, 3) := by decide +kernel
theorem dX7_arrive_12 : decode cX7_arrive 12 = .ok (.iload_n 2, 1) := by decide +kernel
theorem dX7_arrive_13 : decode cX7_arrive 13 = .ok (.bipush 16, 2) := by decide +kernel
theorem dX7_arrive_15 : decode cX7_arrive 15 = .ok (.if_icmp .lt 4, 3) := by decide +kernel
theorem dX7_arrive_18 : decode cX7_arrive 18 = .ok (.return_, 1) := by decide +kernel
theorem dX7_arrive_19 : decode cX7_arrive 19 = .ok (.aload_n 0, 1) := by decide +kernel
theorem dX7_arrive_20 : decode cX7_arrive 20 = .ok (.getfield 11, 3) := by decide +kernel
theorem dX7_arrive_23 : decode cX7_arrive 23 = .ok (.iload_n 1, 1) := by decide +kernel
theorem dX7_arrive_24 : decode cX7_arrive 24 = .ok (.laload, 1) := by decide +kernel
theorem dX7_arrive_25 : decode cX7_arrive 25 = .ok (.lconst 1, 1) := by decide +kernel
theorem dX7_arrive_26 : decode cX7_arrive 26 = .ok (.iconst 4, 1) := by decide +kernel
theorem dX7_arrive_27 : decode cX7_arrive 27 = .ok (.iload_n 2, 1) := by decide +kernel
theorem dX7_arrive_28 : decode cX7_arrive 28 = .ok (.imul, 1) := by decide +kernel
theorem dX7_arrive_29 : decode cX7_arrive 29 = .ok (.lshl, 1) := by decide +kernel
theorem dX7_arrive_30 : decode cX7_arrive 30 = .ok (.ladd, 1) := by decide +kernel
theorem dX7_arrive_31 : decode cX7_arrive 31 = .ok (.lstore 5, 2) := by decide +kernel
theorem dX7_arrive_33 : decode cX7_arrive 33 = .ok (.iconst 0, 1) := by decide +kernel
theorem dX7_arrive_34 : decode cX7_arrive 34 = .ok (.istore 7, 2) := by decide +kernel
theorem dX7_arrive_36 : decode cX7_arrive 36 = .ok (.lload 5, 2) := by decide +kernel
theorem dX7_arrive_38 : decode cX7_arrive 38 = .ok (.ldc2_w 81, 3) := by decide +kernel
theorem dX7_arrive_41 : decode cX7_arrive 41 = .ok (.lmul, 1) := by decide +kernel
theorem dX7_arrive_42 : decode cX7_arrive 42 = .ok (.bipush 52, 2) := by decide +kernel
theorem dX7_arrive_44 : decode cX7_arrive 44 = .ok (.lushr, 1) := by decide +kernel
theorem dX7_arrive_45 : decode cX7_arrive 45 = .ok (.l2i, 1) := by decide +kernel
theorem dX7_arrive_46 : decode cX7_arrive 46 = .ok (.istore 8, 2) := by decide +kernel
theorem dX7_arrive_48 : decode cX7_arrive 48 = .ok (.iconst 0, 1) := by decide +kernel
theorem dX7_arrive_49 : decode cX7_arrive 49 = .ok (.istore 9, 2) := by decide +kernel
theorem dX7_arrive_51 : decode cX7_arrive 51 = .ok (.iload 9, 2) := by decide +kernel
theorem dX7_arrive_53 : decode cX7_arrive 53 = .ok (.sipush 4096, 3) := by decide +kernel
theorem dX7_arrive_56 : decode cX7_arrive 56 = .ok (.if_icmp .ge 102, 3) := by decide +kernel
theorem dX7_arrive_59 : decode cX7_arrive 59 = .ok (.aload_n 0, 1) := by decide +kernel
theorem dX7_arrive_60 : decode cX7_arrive 60 = .ok (.getfield 29, 3) := by decide +kernel
theorem dX7_arrive_63 : decode cX7_arrive 63 = .ok (.iload 8, 2) := by decide +kernel
theorem dX7_arrive_65 : decode cX7_arrive 65 = .ok (.iaload, 1) := by decide +kernel
theorem dX7_arrive_66 : decode cX7_arrive 66 = .ok (.istore 10, 2) := by decide +kernel
theorem dX7_arrive_68 : decode cX7_arrive 68 = .ok (.iload 10, 2) := by decide +kernel
theorem dX7_arrive_70 : decode cX7_arrive 70 = .ok (.iload 4, 2) := by decide +kernel
theorem dX7_arrive_72 : decode cX7_arrive 72 = .ok (.if_icmp .ge 26, 3) := by decide +kernel
theorem dX7_arrive_75 : decode cX7_arrive 75 = .ok (.aload_n 0, 1) := by decide +kernel
theorem dX7_arrive_76 : decode cX7_arrive 76 = .ok (.getfield 29, 3) := by decide +kernel
theorem dX7_arrive_79 : decode cX7_arrive 79 = .ok (.iload 8, 2) := by decide +kernel
theorem dX7_arrive_81 : decode cX7_arrive 81 = .ok (.aload_n 0, 1) := by decide +kernel
theorem dX7_arrive_82 : decode cX7_arrive 82 = .ok (.getfield 45, 3) := by decide +kernel
theorem dX7_arrive_85 : decode cX7_arrive 85 = .ok (.iastore, 1) := by decide +kernel
theorem dX7_arrive_86 : decode cX7_arrive 86 = .ok (.aload_n 0, 1) := by decide +kernel
theorem dX7_arrive_87 : decode cX7_arrive 87 = .ok (.iload_n 1, 1) := by decide +kernel
theorem dX7_arrive_88 : decode cX7_arrive 88 = .ok (.lload 5, 2) := by decide +kernel
theorem dX7_arrive_90 : decode cX7_arrive 90 = .ok (.iload_n 2, 1) := by decide +kernel
theorem dX7_arrive_91 : decode cX7_arrive 91 = .ok (.iload_n 3, 1) := by decide +kernel
theorem dX7_arrive_92 : decode cX7_arrive 92 = .ok (.iload 7, 2) := by decide +kernel
theorem dX7_arrive_94 : decode cX7_arrive 94 = .ok (.invokevirtual 83, 3) := by decide +kernel
theorem dX7_arrive_97 : decode cX7_arrive 97 = .ok (.return_, 1) := by decide +kernel
theorem dX7_arrive_98 : decode cX7_arrive 98 = .ok (.aload_n 0, 1) := by decide +kernel
theorem dX7_arrive_99 : decode cX7_arrive 99 = .ok (.getfield 11, 3) := by decide +kernel
theorem dX7_arrive_102 : decode cX7_arrive 102 = .ok (.iload 10, 2) := by decide +kernel
theorem dX7_arrive_104 : decode cX7_arrive 104 = .ok (.laload, 1) := by decide +kernel
theorem dX7_arrive_105 : decode cX7_arrive 105 = .ok (.lload 5, 2) := by decide +kernel
theorem dX7_arrive_107 : decode cX7_arrive 107 = .ok (.lcmp, 1) := by decide +kernel
theorem dX7_arrive_108 : decode cX7_arrive 108 = .ok (.ifCond .ne 34, 3) := by decide +kernel
theorem dX7_arrive_111 : decode cX7_arrive 111 = .ok (.aload_n 0, 1) := by decide +kernel
theorem dX7_arrive_112 : decode cX7_arrive 112 = .ok (.getfield 15, 3) := by decide +kernel
theorem dX7_arrive_115 : decode cX7_arrive 115 = .ok (.iload 10, 2) := by decide +kernel
theorem dX7_arrive_117 : decode cX7_arrive 117 = .ok (.iaload, 1) := by decide +kernel
theorem dX7_arrive_118 : decode cX7_arrive 118 = .ok (.iload_n 2, 1) := by decide +kernel
theorem dX7_arrive_119 : decode cX7_arrive 119 = .ok (.if_icmp .ne 20, 3) := by decide +kernel
theorem dX7_arrive_122 : decode cX7_arrive 122 = .ok (.aload_n 0, 1) := by decide +kernel
theorem dX7_arrive_123 : decode cX7_arrive 123 = .ok (.getfield 19, 3) := by decide +kernel
theorem dX7_arrive_126 : decode cX7_arrive 126 = .ok (.iload 10, 2) := by decide +kernel
theorem dX7_arrive_128 : decode cX7_arrive 128 = .ok (.dup2, 1) := by decide +kernel
theorem dX7_arrive_129 : decode cX7_arrive 129 = .ok (.iaload, 1) := by decide +kernel
theorem dX7_arrive_130 : decode cX7_arrive 130 = .ok (.aload_n 0, 1) := by decide +kernel
theorem dX7_arrive_131 : decode cX7_arrive 131 = .ok (.getfield 19, 3) := by decide +kernel
theorem dX7_arrive_134 : decode cX7_arrive 134 = .ok (.iload_n 1, 1) := by decide +kernel
theorem dX7_arrive_135 : decode cX7_arrive 135 = .ok (.iaload, 1) := by decide +kernel
theorem dX7_arrive_136 : decode cX7_arrive 136 = .ok (.iadd, 1) := by decide +kernel
theorem dX7_arrive_137 : decode cX7_arrive 137 = .ok (.iastore, 1) := by decide +kernel
theorem dX7_arrive_138 : decode cX7_arrive 138 = .ok (.return_, 1) := by decide +kernel
theorem dX7_arrive_139 : decode cX7_arrive 139 = .ok (.iconst 1, 1) := by decide +kernel
theorem dX7_arrive_140 : decode cX7_arrive 140 = .ok (.istore 7, 2) := by decide +kernel
theorem dX7_arrive_142 : decode cX7_arrive 142 = .ok (.iload 8, 2) := by decide +kernel
theorem dX7_arrive_144 : decode cX7_arrive 144 = .ok (.iconst 1, 1) := by decide +kernel
theorem dX7_arrive_145 : decode cX7_arrive 145 = .ok (.iadd, 1) := by decide +kernel
theorem dX7_arrive_146 : decode cX7_arrive 146 = .ok (.sipush 4095, 3) := by decide +kernel
theorem dX7_arrive_149 : decode cX7_arrive 149 = .ok (.iand, 1) := by decide +kernel
theorem dX7_arrive_150 : decode cX7_arrive 150 = .ok (.istore 8, 2) := by decide +kernel
theorem dX7_arrive_152 : decode cX7_arrive 152 = .ok (.iinc 9 1, 3) := by decide +kernel
theorem dX7_arrive_155 : decode cX7_arrive 155 = .ok (.goto (-104), 3) := by decide +kernel
theorem dX7_arrive_158 : decode cX7_arrive 158 = .ok (.return_, 1) := by decide +kernel
theorem dX7_append_0 : decode cX7_append 0 = .ok (.aload_n 0, 1) := by decide +kernel
theorem dX7_append_1 : decode cX7_append 1 = .ok (.getfield 45, 3) := by decide +kernel
theorem dX7_append_4 : decode cX7_append 4 = .ok (.sipush 2560, 3) := by decide +kernel
theorem dX7_append_7 : decode cX7_append 7 = .ok (.if_icmp .ge 80, 3) := by decide +kernel
theorem dX7_append_10 : decode cX7_append 10 = .ok (.aload_n 0, 1) := by decide +kernel
theorem dX7_append_11 : decode cX7_append 11 = .ok (.getfield 11, 3) := by decide +kernel
theorem dX7_append_14 : decode cX7_append 14 = .ok (.aload_n 0, 1) := by decide +kernel
theorem dX7_append_15 : decode cX7_append 15 = .ok (.getfield 45, 3) := by decide +kernel
theorem dX7_append_18 : decode cX7_append 18 = .ok (.lload_n 2, 1) := by decide +kernel
theorem dX7_append_19 : decode cX7_append 19 = .ok (.lastore, 1) := by decide +kernel
theorem dX7_append_20 : decode cX7_append 20 = .ok (.aload_n 0, 1) := by decide +kernel
theorem dX7_append_21 : decode cX7_append 21 = .ok (.getfield 15, 3) := by decide +kernel
theorem dX7_append_24 : decode cX7_append 24 = .ok (.aload_n 0, 1) := by decide +kernel
theorem dX7_append_25 : decode cX7_append 25 = .ok (.getfield 45, 3) := by decide +kernel
theorem dX7_append_28 : decode cX7_append 28 = .ok (.iload 4, 2) := by decide +kernel
theorem dX7_append_30 : decode cX7_append 30 = .ok (.iastore, 1) := by decide +kernel
theorem dX7_append_31 : decode cX7_append 31 = .ok (.aload_n 0, 1) := by decide +kernel
theorem dX7_append_32 : decode cX7_append 32 = .ok (.getfield 19, 3) := by decide +kernel
theorem dX7_append_35 : decode cX7_append 35 = .ok (.aload_n 0, 1) := by decide +kernel
theorem dX7_append_36 : decode cX7_append 36 = .ok (.getfield 45, 3) := by decide +kernel
theorem dX7_append_39 : decode cX7_append 39 = .ok (.aload_n 0, 1) := by decide +kernel
theorem dX7_append_40 : decode cX7_append 40 = .ok (.getfield 19, 3) := by decide +kernel
theorem dX7_append_43 : decode cX7_append 43 = .ok (.iload_n 1, 1) := by decide +kernel
theorem dX7_append_44 : decode cX7_append 44 = .ok (.iaload, 1) := by decide +kernel
theorem dX7_append_45 : decode cX7_append 45 = .ok (.iastore, 1) := by decide +kernel
theorem dX7_append_46 : decode cX7_append 46 = .ok (.aload_n 0, 1) := by decide +kernel
theorem dX7_append_47 : decode cX7_append 47 = .ok (.getfield 22, 3) := by decide +kernel
theorem dX7_append_50 : decode cX7_append 50 = .ok (.aload_n 0, 1) := by decide +kernel
theorem dX7_append_51 : decode cX7_append 51 = .ok (.getfield 45, 3) := by decide +kernel
theorem dX7_append_54 : decode cX7_append 54 = .ok (.aload_n 0, 1) := by decide +kernel
theorem dX7_append_55 : decode cX7_append 55 = .ok (.getfield 22, 3) := by decide +kernel
theorem dX7_append_58 : decode cX7_append 58 = .ok (.iload_n 1, 1) := by decide +kernel
theorem dX7_append_59 : decode cX7_append 59 = .ok (.iaload, 1) := by decide +kernel
theorem dX7_append_60 : decode cX7_append 60 = .ok (.iconst 2, 1) := by decide +kernel
theorem dX7_append_61 : decode cX7_append 61 = .ok (.ishl, 1) := by decide +kernel
theorem dX7_append_62 : decode cX7_append 62 = .ok (.iload 5, 2) := by decide +kernel
theorem dX7_append_64 : decode cX7_append 64 = .ok (.ior, 1) := by decide +kernel
theorem dX7_append_65 : decode cX7_append 65 = .ok (.iastore, 1) := by decide +kernel
theorem dX7_append_66 : decode cX7_append 66 = .ok (.aload_n 0, 1) := by decide +kernel
theorem dX7_append_67 : decode cX7_append 67 = .ok (.getfield 25, 3) := by decide +kernel
theorem dX7_append_70 : decode cX7_append 70 = .ok (.aload_n 0, 1) := by decide +kernel
theorem dX7_append_71 : decode cX7_append 71 = .ok (.getfield 45, 3) := by decide +kernel
theorem dX7_append_74 : decode cX7_append 74 = .ok (.iload 6, 2) := by decide +kernel
theorem dX7_append_76 : decode cX7_append 76 = .ok (.bastore, 1) := by decide +kernel
theorem dX7_append_77 : decode cX7_append 77 = .ok (.aload_n 0, 1) := by decide +kernel
theorem dX7_append_78 : decode cX7_append 78 = .ok (.dup, 1) := by decide +kernel
theorem dX7_append_79 : decode cX7_append 79 = .ok (.getfield 45, 3) := by decide +kernel
theorem dX7_append_82 : decode cX7_append 82 = .ok (.iconst 1, 1) := by decide +kernel
theorem dX7_append_83 : decode cX7_append 83 = .ok (.iadd, 1) := by decide +kernel
theorem dX7_append_84 : decode cX7_append 84 = .ok (.putfield 45, 3) := by decide +kernel
theorem dX7_append_87 : decode cX7_append 87 = .ok (.return_, 1) := by decide +kernel
theorem dX7_moveOf_0 : decode cX7_moveOf 0 = .ok (.iload_n 3, 1) := by decide +kernel
theorem dX7_moveOf_1 : decode cX7_moveOf 1 = .ok (.ifCond .lt 8, 3) := by decide +kernel
theorem dX7_moveOf_4 : decode cX7_moveOf 4 = .ok (.iload_n 3, 1) := by decide +kernel
theorem dX7_moveOf_5 : decode cX7_moveOf 5 = .ok (.iload_n 2, 1) := by decide +kernel
theorem dX7_moveOf_6 : decode cX7_moveOf 6 = .ok (.if_icmp .lt 5, 3) := by decide +kernel
theorem dX7_moveOf_9 : decode cX7_moveOf 9 = .ok (.iconst (-1), 1) := by decide +kernel
theorem dX7_moveOf_10 : decode cX7_moveOf 10 = .ok (.ireturn, 1) := by decide +kernel
theorem dX7_moveOf_11 : decode cX7_moveOf 11 = .ok (.aload_n 0, 1) := by decide +kernel
theorem dX7_moveOf_12 : decode cX7_moveOf 12 = .ok (.getfield 22, 3) := by decide +kernel
theorem dX7_moveOf_15 : decode cX7_moveOf 15 = .ok (.iload_n 1, 1) := by decide +kernel
theorem dX7_moveOf_16 : decode cX7_moveOf 16 = .ok (.iaload, 1) := by decide +kernel
theorem dX7_moveOf_17 : decode cX7_moveOf 17 = .ok (.iconst 2, 1) := by decide +kernel
theorem dX7_moveOf_18 : decode cX7_moveOf 18 = .ok (.iload_n 2, 1) := by decide +kernel
theorem dX7_moveOf_19 : decode cX7_moveOf 19 = .ok (.iconst 1, 1) := by decide +kernel
theorem dX7_moveOf_20 : decode cX7_moveOf 20 = .ok (.isub, 1) := by decide +kernel
theorem dX7_moveOf_21 : decode cX7_moveOf 21 = .ok (.iload_n 3, 1) := by decide +kernel
theorem dX7_moveOf_22 : decode cX7_moveOf 22 = .ok (.isub, 1) := by decide +kernel
theorem dX7_moveOf_23 : decode cX7_moveOf 23 = .ok (.imul, 1) := by decide +kernel
theorem dX7_moveOf_24 : decode cX7_moveOf 24 = .ok (.ishr, 1) := by decide +kernel
theorem dX7_moveOf_25 : decode cX7_moveOf 25 = .ok (.iconst 3, 1) := by decide +kernel
theorem dX7_moveOf_26 : decode cX7_moveOf 26 = .ok (.iand, 1) := by decide +kernel
theorem dX7_moveOf_27 : decode cX7_moveOf 27 = .ok (.ireturn, 1) := by decide +kernel
theorem dX8_init_0 : decode cX8_init 0 = .ok (.aload_n 0, 1) := by decide +kernel
theorem dX8_init_1 : decode cX8_init 1 = .ok (.invokespecial 1, 3) := by decide +kernel
theorem dX8_init_4 : decode cX8_init 4 = .ok (.aload_n 0, 1) := by decide +kernel
theorem dX8_init_5 : decode cX8_init 5 = .ok (.sipush 900, 3) := by decide +kernel
theorem dX8_init_8 : decode cX8_init 8 = .ok (.newarray .byte, 2) := by decide +kernel
theorem dX8_init_10 : decode cX8_init 10 = .ok (.putfield 9, 3) := by decide +kernel
theorem dX8_init_13 : decode cX8_init 13 = .ok (.aload_n 0, 1) := by decide +kernel
theorem dX8_init_14 : decode cX8_init 14 = .ok (.iconst 0, 1) := by decide +kernel
theorem dX8_init_15 : decode cX8_init 15 = .ok (.putfield 13, 3) := by decide +kernel
theorem dX8_init_18 : decode cX8_init 18 = .ok (.aload_n 0, 1) := by decide +kernel
theorem dX8_init_19 : decode cX8_init 19 = .ok (.new 17, 3) := by decide +kernel
theorem dX8_init_22 : decode cX8_init 22 = .ok (.dup, 1) := by decide +kernel
theorem dX8_init_23 : decode cX8_init 23 = .ok (.invokespecial 19, 3) := by decide +kernel
theorem dX8_init_26 : decode cX8_init 26 = .ok (.putfield 20, 3) := by decide +kernel
theorem dX8_init_29 : decode cX8_init 29 = .ok (.aload_n 0, 1) := by decide +kernel
theorem dX8_init_30 : decode cX8_init 30 = .ok (.new 24, 3) := by decide +kernel
theorem dX8_init_33 : decode cX8_init 33 = .ok (.dup, 1) := by decide +kernel
theorem dX8_init_34 : decode cX8_init 34 = .ok (.invokespecial 26, 3) := by decide +kernel
theorem dX8_init_37 : decode cX8_init 37 = .ok (.putfield 27, 3) := by decide +kernel
theorem dX8_init_40 : decode cX8_init 40 = .ok (.aload_n 0, 1) := by decide +kernel
theorem dX8_init_41 : decode cX8_init 41 = .ok (.new 24, 3) := by decide +kernel
theorem dX8_init_44 : decode cX8_init 44 = .ok (.dup, 1) := by decide +kernel
theorem dX8_init_45 : decode cX8_init 45 = .ok (.invokespecial 26, 3) := by decide +kernel
theorem dX8_init_48 : decode cX8_init 48 = .ok (.putfield 31, 3) := by decide +kernel
theorem dX8_init_51 : decode cX8_init 51 = .ok (.aload_n 0, 1) := by decide +kernel
theorem dX8_init_52 : decode cX8_init 52 = .ok (.iconst 2, 1) := by decide +kernel
theorem dX8_init_53 : decode cX8_init 53 = .ok (.anewarray 24, 3) := by decide +kernel
theorem dX8_init_56 : decode cX8_init 56 = .ok (.putfield 34, 3) := by decide +kernel
theorem dX8_init_59 : decode cX8_init 59 = .ok (.aload_n 0, 1) := by decide +kernel
theorem dX8_init_60 : decode cX8_init 60 = .ok (.iconst 2, 1) := by decide +kernel
theorem dX8_init_61 : decode cX8_init 61 = .ok (.newarray .boolean, 2) := by decide +kernel
theorem dX8_init_63 : decode cX8_init 63 = .ok (.putfield 38, 3) := by decide +kernel
theorem dX8_init_66 : decode cX8_init 66 = .ok (.aload_n 0, 1) := by decide +kernel
theorem dX8_init_67 : decode cX8_init 67 = .ok (.iconst 4, 1) := by decide +kernel
theorem dX8_init_68 : decode cX8_init 68 = .ok (.anewarray 42, 3) := by decide +kernel
theorem dX8_init_71 : decode cX8_init 71 = .ok (.putfield 44, 3) := by decide +kernel
theorem dX8_init_74 : decode cX8_init 74 = .ok (.aload_n 0, 1) := by decide +kernel
theorem dX8_init_75 : decode cX8_init 75 = .ok (.new 48, 3) := by decide +kernel
theorem dX8_init_78 : decode cX8_init 78 = .ok (.dup, 1) := by decide +kernel
theorem dX8_init_79 : decode cX8_init 79 = .ok (.invokespecial 50, 3) := by decide +kernel
theorem dX8_init_82 : decode cX8_init 82 = .ok (.putfield 51, 3) := by decide +kernel
theorem dX8_init_85 : decode cX8_init 85 = .ok (.aload_n 0, 1) := by decide +kernel
theorem dX8_init_86 : decode cX8_init 86 = .ok (.new 55, 3) := by decide +kernel
theorem dX8_init_89 : decode cX8_init 89 = .ok (.dup, 1) := by decide +kernel
theorem dX8_init_90 : decode cX8_init 90 = .ok (.invokespecial 57, 3) := by decide +kernel
theorem dX8_init_93 : decode cX8_init 93 = .ok (.putfield 58, 3) := by decide +kernel
theorem dX8_init_96 : decode cX8_init 96 = .ok (.aload_n 0, 1) := by decide +kernel
theorem dX8_init_97 : decode cX8_init 97 = .ok (.new 62, 3) := by decide +kernel
theorem dX8_init_100 : decode cX8_init 100 = .ok (.dup, 1) := by decide +kernel
theorem dX8_init_101 : decode cX8_init 101 = .ok (.invokespecial 64, 3) := by decide +kernel
theorem dX8_init_104 : decode cX8_init 104 = .ok (.putfield 65, 3) := by decide +kernel
theorem dX8_init_107 : decode cX8_init 107 = .ok (.aload_n 0, 1) := by decide +kernel
theorem dX8_init_108 : decode cX8_init 108 = .ok (.new 69, 3) := by decide +kernel
theorem dX8_init_111 : decode cX8_init 111 = .ok (.dup, 1) := by decide +kernel
theorem dX8_init_112 : decode cX8_init 112 = .ok (.invokespecial 71, 3) := by decide +kernel
theorem dX8_init_115 : decode cX8_init 115 = .ok (.putfield 72, 3) := by decide +kernel
theorem dX8_init_118 : decode cX8_init 118 = .ok (.aload_n 0, 1) := by decide +kernel
theorem dX8_init_119 : decode cX8_init 119 = .ok (.new 76, 3) := by decide +kernel
theorem dX8_init_122 : decode cX8_init 122 = .ok (.dup, 1) := by decide +kernel
theorem dX8_init_123 : decode cX8_init 123 = .ok (.invokespecial 78, 3) := by decide +kernel
theorem dX8_init_126 : decode cX8_init 126 = .ok (.putfield 79, 3) := by decide +kernel
theorem dX8_init_129 : decode cX8_init 129 = .ok (.iconst 0, 1) := by decide +kernel
theorem dX8_init_130 : decode cX8_init 130 = .ok (.istore_n 1, 1) := by decide +kernel
theorem dX8_init_131 : decode cX8_init 131 = .ok (.iload_n 1, 1) := by decide +kernel
theorem dX8_init_132 : decode cX8_init 132 = .ok (.iconst 2, 1) := by decide +kernel
theorem dX8_init_133 : decode cX8_init 133 = .ok (.if_icmp .ge 22, 3) := by decide +kernel
theorem dX8_init_136 : decode cX8_init 136 = .ok (.aload_n 0, 1) := by decide +kernel
theorem dX8_init_137 : decode cX8_init 137 = .ok (.getfield 34, 3) := by decide +kernel
theorem dX8_init_140 : decode cX8_init 140 = .ok (.iload_n 1, 1) := by decide +kernel
theorem dX8_init_141 : decode cX8_init 141 = .ok (.new 24, 3) := by decide +kernel
theorem dX8_init_144 : decode cX8_init 144 = .ok (.dup, 1) := by decide +kernel
theorem dX8_init_145 : decode cX8_init 145 = .ok (.invokespecial 26, 3) := by decide +kernel
theorem dX8_init_148 : decode cX8_init 148 = .ok (.aastore, 1) := by decide +kernel
theorem dX8_init_149 : decode cX8_init 149 = .ok (.iinc 1 1, 3) := by decide +kernel
theorem dX8_init_152 : decode cX8_init 152 = .ok (.goto (-21), 3) := by decide +kernel
theorem dX8_init_155 : decode cX8_init 155 = .ok (.iconst 0, 1) := by decide +kernel
theorem dX8_init_156 : decode cX8_init 156 = .ok (.istore_n 1, 1) := by decide +kernel
theorem dX8_init_157 : decode cX8_init 157 = .ok (.iload_n 1, 1) := by decide +kernel
theorem dX8_init_158 : decode cX8_init 158 = .ok (.iconst 4, 1) := by decide +kernel
theorem dX8_init_159 : decode cX8_init 159 = .ok (.if_icmp .ge 22, 3) := by decide +kernel
theorem dX8_init_162 : decode cX8_init 162 = .ok (.aload_n 0, 1) := by decide +kernel
theorem dX8_init_163 : decode cX8_init 163 = .ok (.getfield 44, 3) := by decide +kernel
theorem dX8_init_166 : decode cX8_init 166 = .ok (.iload_n 1, 1) := by decide +kernel
theorem dX8_init_167 : decode cX8_init 167 = .ok (.new 42, 3) := by decide +kernel
theorem dX8_init_170 : decode cX8_init 170 = .ok (.dup, 1) := by decide +kernel
theorem dX8_init_171 : decode cX8_init 171 = .ok (.invokespecial 83, 3) := by decide +kernel
theorem dX8_init_174 : decode cX8_init 174 = .ok (.aastore, 1) := by decide +kernel
theorem dX8_init_175 : decode cX8_init 175 = .ok (.iinc 1 1, 3) := by decide +kernel
theorem dX8_init_178 : decode cX8_init 178 = .ok (.goto (-21), 3) := by decide +kernel
theorem dX8_init_181 : decode cX8_init 181 = .ok (.return_, 1) := by decide +kernel
theorem dX8_feed_0 : decode cX8_feed 0 = .ok (.aload_n 0, 1) := by decide +kernel
theorem dX8_feed_1 : decode cX8_feed 1 = .ok (.getfield 13, 3) := by decide +kernel
theorem dX8_feed_4 : decode cX8_feed 4 = .ok (.bipush 20, 2) := by decide +kernel
theorem dX8_feed_6 : decode cX8_feed 6 = .ok (.iadd, 1) := by decide +kernel
theorem dX8_feed_7 : decode cX8_feed 7 = .ok (.sipush 900, 3) := by decide +kernel
theorem dX8_feed_10 : decode cX8_feed 10 = .ok (.if_icmp .le 6, 3) := by decide +kernel
theorem dX8_feed_13 : decode cX8_feed 13 = .ok (.bipush (-5), 2) := by decide +kernel
theorem dX8_feed_15 : decode cX8_feed 15 = .ok (.ireturn, 1) := by decide +kernel
theorem dX8_feed_16 : decode cX8_feed 16 = .ok (.aload_n 0, 1) := by decide +kernel
theorem dX8_feed_17 : decode cX8_feed 17 = .ok (.iload_n 1, 1) := by decide +kernel
theorem dX8_feed_18 : decode cX8_feed 18 = .ok (.invokevirtual 84, 3) := by decide +kernel
theorem dX8_feed_21 : decode cX8_feed 21 = .ok (.aload_n 0, 1) := by decide +kernel
theorem dX8_feed_22 : decode cX8_feed 22 = .ok (.iload_n 2, 1) := by decide +kernel
theorem dX8_feed_23 : decode cX8_feed 23 = .ok (.invokevirtual 84, 3) := by decide +kernel
theorem dX8_feed_26 : decode cX8_feed 26 = .ok (.aload_n 0, 1) := by decide +kernel
theorem dX8_feed_27 : decode cX8_feed 27 = .ok (.iload_n 3, 1) := by decide +kernel
theorem dX8_feed_28 : decode cX8_feed 28 = .ok (.invokevirtual 84, 3) := by decide +kernel
theorem dX8_feed_31 : decode cX8_feed 31 = .ok (.aload_n 0, 1) := by decide +kernel
theorem dX8_feed_32 : decode cX8_feed 32 = .ok (.iload 4, 2) := by decide +kernel
theorem dX8_feed_34 : decode cX8_feed 34 = .ok (.invokevirtual 84, 3) := by decide +kernel
theorem dX8_feed_37 : decode cX8_feed 37 = .ok (.aload_n 0, 1) := by decide +kernel
theorem dX8_feed_38 : decode cX8_feed 38 = .ok (.iload 5, 2) := by decide +kernel
theorem dX8_feed_40 : decode cX8_feed 40 = .ok (.invokevirtual 84, 3) := by decide +kernel
theorem dX8_feed_43 : decode cX8_feed 43 = .ok (.aload_n 0, 1) := by decide +kernel
theorem dX8_feed_44 : decode cX8_feed 44 = .ok (.getfield 13, 3) := by decide +kernel
theorem dX8_feed_47 : decode cX8_feed 47 = .ok (.ireturn, 1) := by decide +kernel
theorem dX8_plain_0 : decode cX8_plain 0 = .ok (.iload_n 1, 1) := by decide +kernel
theorem dX8_plain_1 : decode cX8_plain 1 = .ok (.ifCond .lt 11, 3) := by decide +kernel
theorem dX8_plain_4 : decode cX8_plain 4 = .ok (.iload_n 1, 1) := by decide +kernel
theorem dX8_plain_5 : decode cX8_plain 5 = .ok (.aload_n 0, 1) := by decide +kernel
theorem dX8_plain_6 : decode cX8_plain 6 = .ok (.getfield 13, 3) := by decide +kernel
theorem dX8_plain_9 : decode cX8_plain 9 = .ok (.if_icmp .le 6, 3) := by decide +kernel
theorem dX8_plain_12 : decode cX8_plain 12 = .ok (.bipush (-3), 2) := by decide +kernel
theorem dX8_plain_14 : decode cX8_plain 14 = .ok (.ireturn, 1) := by decide +kernel
theorem dX8_plain_15 : decode cX8_plain 15 = .ok (.aload_n 0, 1) := by decide +kernel
theorem dX8_plain_16 : decode cX8_plain 16 = .ok (.iconst 0, 1) := by decide +kernel
theorem dX8_plain_17 : decode cX8_plain 17 = .ok (.putfield 13, 3) := by decide +kernel
theorem dX8_plain_20 : decode cX8_plain 20 = .ok (.aload_n 0, 1) := by decide +kernel
theorem dX8_plain_21 : decode cX8_plain 21 = .ok (.getfield 20, 3) := by decide +kernel
theorem dX8_plain_24 : decode cX8_plain 24 = .ok (.aload_n 0, 1) := by decide +kernel
theorem dX8_plain_25 : decode cX8_plain 25 = .ok (.getfield 9, 3) := by decide +kernel
theorem dX8_plain_28 : decode cX8_plain 28 = .ok (.iload_n 1, 1) := by decide +kernel
theorem dX8_plain_29 : decode cX8_plain 29 = .ok (.invokevirtual 88, 3) := by decide +kernel
theorem dX8_plain_32 : decode cX8_plain 32 = .ok (.istore_n 2, 1) := by decide +kernel
theorem dX8_plain_33 : decode cX8_plain 33 = .ok (.iload_n 2, 1) := by decide +kernel
theorem dX8_plain_34 : decode cX8_plain 34 = .ok (.ifCond .eq 8, 3) := by decide +kernel
theorem dX8_plain_37 : decode cX8_plain 37 = .ok (.bipush (-30), 2) := by decide +kernel
theorem dX8_plain_39 : decode cX8_plain 39 = .ok (.iload_n 2, 1) := by decide +kernel
theorem dX8_plain_40 : decode cX8_plain 40 = .ok (.isub, 1) := by decide +kernel
theorem dX8_plain_41 : decode cX8_plain 41 = .ok (.ireturn, 1) := by decide +kernel
theorem dX8_plain_42 : decode cX8_plain 42 = .ok (.aload_n 0, 1) := by decide +kernel
theorem dX8_plain_43 : decode cX8_plain 43 = .ok (.getfield 27, 3) := by decide +kernel
theorem dX8_plain_46 : decode cX8_plain 46 = .ok (.aload_n 0, 1) := by decide +kernel
theorem dX8_plain_47 : decode cX8_plain 47 = .ok (.getfield 20, 3) := by decide +kernel
theorem dX8_plain_50 : decode cX8_plain 50 = .ok (.getfield 92, 3) := by decide +kernel
theorem dX8_plain_53 : decode cX8_plain 53 = .ok (.invokevirtual 95, 3) := by decide +kernel
theorem dX8_plain_56 : decode cX8_plain 56 = .ok (.aload_n 0, 1) := by decide +kernel
theorem dX8_plain_57 : decode cX8_plain 57 = .ok (.getfield 27, 3) := by decide +kernel
theorem dX8_plain_60 : decode cX8_plain 60 = .ok (.getfield 99, 3) := by decide +kernel
theorem dX8_plain_63 : decode cX8_plain 63 = .ok (.ireturn, 1) := by decide +kernel
theorem dX8_fault_0 : decode cX8_fault 0 = .ok (.iload_n 1, 1) := by decide +kernel
theorem dX8_fault_1 : decode cX8_fault 1 = .ok (.ifCond .ne 11, 3) := by decide +kernel
theorem dX8_fault_4 : decode cX8_fault 4 = .ok (.aload_n 0, 1) := by decide +kernel
theorem dX8_fault_5 : decode cX8_fault 5 = .ok (.getfield 20, 3) := by decide +kernel
theorem dX8_fault_8 : decode cX8_fault 8 = .ok (.getfield 102, 3) := by decide +kernel
theorem dX8_fault_11 : decode cX8_fault 11 = .ok (.ireturn, 1) := by decide +kernel
theorem dX8_fault_12 : decode cX8_fault 12 = .ok (.iload_n 1, 1) := by decide +kernel
theorem dX8_fault_13 : decode cX8_fault 13 = .ok (.iconst 1, 1) := by decide +kernel
theorem dX8_fault_14 : decode cX8_fault 14 = .ok (.if_icmp .ne 11, 3) := by decide +kernel
theorem dX8_fault_17 : decode cX8_fault 17 = .ok (.aload_n 0, 1) := by decide +kernel
theorem dX8_fault_18 : decode cX8_fault 18 = .ok (.getfield 20, 3) := by decide +kernel
theorem dX8_fault_21 : decode cX8_fault 21 = .ok (.getfield 105, 3) := by decide +kernel
theorem dX8_fault_24 : decode cX8_fault 24 = .ok (.ireturn, 1) := by decide +kernel
theorem dX8_fault_25 : decode cX8_fault 25 = .ok (.iconst (-1), 1) := by decide +kernel
theorem dX8_fault_26 : decode cX8_fault 26 = .ok (.ireturn, 1) := by decide +kernel
theorem dX8_strip_0 : decode cX8_strip 0 = .ok (.aload_n 0, 1) := by decide +kernel
theorem dX8_strip_1 : decode cX8_strip 1 = .ok (.getfield 27, 3) := by decide +kernel
theorem dX8_strip_4 : decode cX8_strip 4 = .ok (.iload_n 1, 1) := by decide +kernel
theorem dX8_strip_5 : decode cX8_strip 5 = .ok (.invokevirtual 108, 3) := by decide +kernel
theorem dX8_strip_8 : decode cX8_strip 8 = .ok (.ifCond .ne 6, 3) := by decide +kernel
theorem dX8_strip_11 : decode cX8_strip 11 = .ok (.bipush (-2), 2) := by decide +kernel
theorem dX8_strip_13 : decode cX8_strip 13 = .ok (.ireturn, 1) := by decide +kernel
theorem dX8_strip_14 : decode cX8_strip 14 = .ok (.iload_n 2, 1) := by decide +kernel
theorem dX8_strip_15 : decode cX8_strip 15 = .ok (.tableswitch 103 0 5 #[37, 47, 57, 67, 77, 87], 37) := by decide +kernel
theorem dX8_strip_52 : decode cX8_strip 52 = .ok (.aload_n 0, 1) := by decide +kernel
theorem dX8_strip_53 : decode cX8_strip 53 = .ok (.getfield 27, 3) := by decide +kernel
theorem dX8_strip_56 : decode cX8_strip 56 = .ok (.getfield 112, 3) := by decide +kernel
theorem dX8_strip_59 : decode cX8_strip 59 = .ok (.iload_n 1, 1) := by decide +kernel
theorem dX8_strip_60 : decode cX8_strip 60 = .ok (.iaload, 1) := by decide +kernel
theorem dX8_strip_61 : decode cX8_strip 61 = .ok (.ireturn, 1) := by decide +kernel
theorem dX8_strip_62 : decode cX8_strip 62 = .ok (.aload_n 0, 1) := by decide +kernel
theorem dX8_strip_63 : decode cX8_strip 63 = .ok (.getfield 27, 3) := by decide +kernel
theorem dX8_strip_66 : decode cX8_strip 66 = .ok (.getfield 116, 3) := by decide +kernel
theorem dX8_strip_69 : decode cX8_strip 69 = .ok (.iload_n 1, 1) := by decide +kernel
theorem dX8_strip_70 : decode cX8_strip 70 = .ok (.iaload, 1) := by decide +kernel
theorem dX8_strip_71 : decode cX8_strip 71 = .ok (.ireturn, 1) := by decide +kernel
theorem dX8_strip_72 : decode cX8_strip 72 = .ok (.aload_n 0, 1) := by decide +kernel
theorem dX8_strip_73 : decode cX8_strip 73 = .ok (.getfield 27, 3) := by decide +kernel
theorem dX8_strip_76 : decode cX8_strip 76 = .ok (.getfield 119, 3) := by decide +kernel
theorem dX8_strip_79 : decode cX8_strip 79 = .ok (.iload_n 1, 1) := by decide +kernel
theorem dX8_strip_80 : decode cX8_strip 80 = .ok (.iaload, 1) := by decide +kernel
theorem dX8_strip_81 : decode cX8_strip 81 = .ok (.ireturn, 1) := by decide +kernel
theorem dX8_strip_82 : decode cX8_strip 82 = .ok (.aload_n 0, 1) := by decide +kernel
theorem dX8_strip_83 : decode cX8_strip 83 = .ok (.getfield 27, 3) := by decide +kernel
theorem dX8_strip_86 : decode cX8_strip 86 = .ok (.getfield 122, 3) := by decide +kernel
theorem dX8_strip_89 : decode cX8_strip 89 = .ok (.iload_n 1, 1) := by decide +kernel
theorem dX8_strip_90 : decode cX8_strip 90 = .ok (.iaload, 1) := by decide +kernel
theorem dX8_strip_91 : decode cX8_strip 91 = .ok (.ireturn, 1) := by decide +kernel
theorem dX8_strip_92 : decode cX8_strip 92 = .ok (.aload_n 0, 1) := by decide +kernel
theorem dX8_strip_93 : decode cX8_strip 93 = .ok (.getfield 27, 3) := by decide +kernel
theorem dX8_strip_96 : decode cX8_strip 96 = .ok (.getfield 125, 3) := by decide +kernel
theorem dX8_strip_99 : decode cX8_strip 99 = .ok (.iload_n 1, 1) := by decide +kernel
theorem dX8_strip_100 : decode cX8_strip 100 = .ok (.iaload, 1) := by decide +kernel
theorem dX8_strip_101 : decode cX8_strip 101 = .ok (.ireturn, 1) := by decide +kernel
theorem dX8_strip_102 : decode cX8_strip 102 = .ok (.aload_n 0, 1) := by decide +kernel
