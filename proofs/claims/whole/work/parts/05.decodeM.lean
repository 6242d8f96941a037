theorem d_M_init_0 : decode b_M_init 0 = .ok (.aload_n 0, 1) := by decide +kernel
theorem d_M_init_1 : decode b_M_init 1 = .ok (.invokespecial 1, 3) := by decide +kernel
theorem d_M_init_4 : decode b_M_init 4 = .ok (.aload_n 0, 1) := by decide +kernel
theorem d_M_init_5 : decode b_M_init 5 = .ok (.bipush 31, 2) := by decide +kernel
theorem d_M_init_7 : decode b_M_init 7 = .ok (.sipush 256, 3) := by decide +kernel
theorem d_M_init_10 : decode b_M_init 10 = .ok (.multianewarray 7 2, 4) := by decide +kernel
theorem d_M_init_14 : decode b_M_init 14 = .ok (.putfield 9, 3) := by decide +kernel
theorem d_M_init_17 : decode b_M_init 17 = .ok (.aload_n 0, 1) := by decide +kernel
theorem d_M_init_18 : decode b_M_init 18 = .ok (.bipush 31, 2) := by decide +kernel
theorem d_M_init_20 : decode b_M_init 20 = .ok (.sipush 256, 3) := by decide +kernel
theorem d_M_init_23 : decode b_M_init 23 = .ok (.multianewarray 14 2, 4) := by decide +kernel
theorem d_M_init_27 : decode b_M_init 27 = .ok (.putfield 16, 3) := by decide +kernel
theorem d_M_init_30 : decode b_M_init 30 = .ok (.aload_n 0, 1) := by decide +kernel
theorem d_M_init_31 : decode b_M_init 31 = .ok (.bipush 31, 2) := by decide +kernel
theorem d_M_init_33 : decode b_M_init 33 = .ok (.newarray .int, 2) := by decide +kernel
theorem d_M_init_35 : decode b_M_init 35 = .ok (.putfield 19, 3) := by decide +kernel
theorem d_M_init_38 : decode b_M_init 38 = .ok (.aload_n 0, 1) := by decide +kernel
theorem d_M_init_39 : decode b_M_init 39 = .ok (.sipush 256, 3) := by decide +kernel
theorem d_M_init_42 : decode b_M_init 42 = .ok (.newarray .long, 2) := by decide +kernel
theorem d_M_init_44 : decode b_M_init 44 = .ok (.putfield 23, 3) := by decide +kernel
theorem d_M_init_47 : decode b_M_init 47 = .ok (.aload_n 0, 1) := by decide +kernel
theorem d_M_init_48 : decode b_M_init 48 = .ok (.sipush 256, 3) := by decide +kernel
theorem d_M_init_51 : decode b_M_init 51 = .ok (.newarray .long, 2) := by decide +kernel
theorem d_M_init_53 : decode b_M_init 53 = .ok (.putfield 27, 3) := by decide +kernel
theorem d_M_init_56 : decode b_M_init 56 = .ok (.aload_n 0, 1) := by decide +kernel
theorem d_M_init_57 : decode b_M_init 57 = .ok (.sipush 256, 3) := by decide +kernel
theorem d_M_init_60 : decode b_M_init 60 = .ok (.newarray .boolean, 2) := by decide +kernel
theorem d_M_init_62 : decode b_M_init 62 = .ok (.putfield 30, 3) := by decide +kernel
theorem d_M_init_65 : decode b_M_init 65 = .ok (.return_, 1) := by decide +kernel
theorem d_M_thrown_0 : decode b_M_thrown 0 = .ok (.aload_n 0, 1) := by decide +kernel
theorem d_M_thrown_1 : decode b_M_thrown 1 = .ok (.getfield 34, 3) := by decide +kernel
theorem d_M_thrown_4 : decode b_M_thrown 4 = .ok (.ireturn, 1) := by decide +kernel
theorem d_M_begin_0 : decode b_M_begin 0 = .ok (.aload_n 0, 1) := by decide +kernel
theorem d_M_begin_1 : decode b_M_begin 1 = .ok (.iconst 0, 1) := by decide +kernel
theorem d_M_begin_2 : decode b_M_begin 2 = .ok (.putfield 34, 3) := by decide +kernel
theorem d_M_begin_5 : decode b_M_begin 5 = .ok (.iconst 0, 1) := by decide +kernel
theorem d_M_begin_6 : decode b_M_begin 6 = .ok (.istore_n 1, 1) := by decide +kernel
theorem d_M_begin_7 : decode b_M_begin 7 = .ok (.iload_n 1, 1) := by decide +kernel
theorem d_M_begin_8 : decode b_M_begin 8 = .ok (.sipush 256, 3) := by decide +kernel
theorem d_M_begin_11 : decode b_M_begin 11 = .ok (.if_icmp .ge 28, 3) := by decide +kernel
theorem d_M_begin_14 : decode b_M_begin 14 = .ok (.aload_n 0, 1) := by decide +kernel
theorem d_M_begin_15 : decode b_M_begin 15 = .ok (.getfield 27, 3) := by decide +kernel
theorem d_M_begin_18 : decode b_M_begin 18 = .ok (.iload_n 1, 1) := by decide +kernel
theorem d_M_begin_19 : decode b_M_begin 19 = .ok (.aload_n 0, 1) := by decide +kernel
theorem d_M_begin_20 : decode b_M_begin 20 = .ok (.getfield 23, 3) := by decide +kernel
theorem d_M_begin_23 : decode b_M_begin 23 = .ok (.iload_n 1, 1) := by decide +kernel
theorem d_M_begin_24 : decode b_M_begin 24 = .ok (.laload, 1) := by decide +kernel
theorem d_M_begin_25 : decode b_M_begin 25 = .ok (.lastore, 1) := by decide +kernel
theorem d_M_begin_26 : decode b_M_begin 26 = .ok (.aload_n 0, 1) := by decide +kernel
theorem d_M_begin_27 : decode b_M_begin 27 = .ok (.getfield 30, 3) := by decide +kernel
theorem d_M_begin_30 : decode b_M_begin 30 = .ok (.iload_n 1, 1) := by decide +kernel
theorem d_M_begin_31 : decode b_M_begin 31 = .ok (.iconst 0, 1) := by decide +kernel
theorem d_M_begin_32 : decode b_M_begin 32 = .ok (.bastore, 1) := by decide +kernel
theorem d_M_begin_33 : decode b_M_begin 33 = .ok (.iinc 1 1, 3) := by decide +kernel
theorem d_M_begin_36 : decode b_M_begin 36 = .ok (.goto (-29), 3) := by decide +kernel
theorem d_M_begin_39 : decode b_M_begin 39 = .ok (.aload_n 0, 1) := by decide +kernel
theorem d_M_begin_40 : decode b_M_begin 40 = .ok (.iconst 0, 1) := by decide +kernel
theorem d_M_begin_41 : decode b_M_begin 41 = .ok (.putfield 38, 3) := by decide +kernel
theorem d_M_begin_44 : decode b_M_begin 44 = .ok (.aload_n 0, 1) := by decide +kernel
theorem d_M_begin_45 : decode b_M_begin 45 = .ok (.iconst 0, 1) := by decide +kernel
theorem d_M_begin_46 : decode b_M_begin 46 = .ok (.putfield 41, 3) := by decide +kernel
theorem d_M_begin_49 : decode b_M_begin 49 = .ok (.aload_n 0, 1) := by decide +kernel
theorem d_M_begin_50 : decode b_M_begin 50 = .ok (.invokevirtual 44, 3) := by decide +kernel
theorem d_M_begin_53 : decode b_M_begin 53 = .ok (.ireturn, 1) := by decide +kernel
theorem d_M_filled_0 : decode b_M_filled 0 = .ok (.iconst 0, 1) := by decide +kernel
theorem d_M_filled_1 : decode b_M_filled 1 = .ok (.istore_n 1, 1) := by decide +kernel
theorem d_M_filled_2 : decode b_M_filled 2 = .ok (.iconst 0, 1) := by decide +kernel
theorem d_M_filled_3 : decode b_M_filled 3 = .ok (.istore_n 2, 1) := by decide +kernel
theorem d_M_filled_4 : decode b_M_filled 4 = .ok (.iload_n 2, 1) := by decide +kernel
theorem d_M_filled_5 : decode b_M_filled 5 = .ok (.sipush 256, 3) := by decide +kernel
theorem d_M_filled_8 : decode b_M_filled 8 = .ok (.if_icmp .ge 28, 3) := by decide +kernel
theorem d_M_filled_11 : decode b_M_filled 11 = .ok (.iload_n 1, 1) := by decide +kernel
theorem d_M_filled_12 : decode b_M_filled 12 = .ok (.aload_n 0, 1) := by decide +kernel
theorem d_M_filled_13 : decode b_M_filled 13 = .ok (.getfield 23, 3) := by decide +kernel
theorem d_M_filled_16 : decode b_M_filled 16 = .ok (.iload_n 2, 1) := by decide +kernel
theorem d_M_filled_17 : decode b_M_filled 17 = .ok (.laload, 1) := by decide +kernel
theorem d_M_filled_18 : decode b_M_filled 18 = .ok (.lconst 0, 1) := by decide +kernel
theorem d_M_filled_19 : decode b_M_filled 19 = .ok (.lcmp, 1) := by decide +kernel
theorem d_M_filled_20 : decode b_M_filled 20 = .ok (.ifCond .eq 7, 3) := by decide +kernel
theorem d_M_filled_23 : decode b_M_filled 23 = .ok (.iconst 1, 1) := by decide +kernel
theorem d_M_filled_24 : decode b_M_filled 24 = .ok (.goto 4, 3) := by decide +kernel
theorem d_M_filled_27 : decode b_M_filled 27 = .ok (.iconst 0, 1) := by decide +kernel
theorem d_M_filled_28 : decode b_M_filled 28 = .ok (.iadd, 1) := by decide +kernel
theorem d_M_filled_29 : decode b_M_filled 29 = .ok (.istore_n 1, 1) := by decide +kernel
theorem d_M_filled_30 : decode b_M_filled 30 = .ok (.iinc 2 1, 3) := by decide +kernel
theorem d_M_filled_33 : decode b_M_filled 33 = .ok (.goto (-29), 3) := by decide +kernel
theorem d_M_filled_36 : decode b_M_filled 36 = .ok (.iload_n 1, 1) := by decide +kernel
theorem d_M_filled_37 : decode b_M_filled 37 = .ok (.ireturn, 1) := by decide +kernel
theorem d_M_open_0 : decode b_M_open 0 = .ok (.aload_n 0, 1) := by decide +kernel
theorem d_M_open_1 : decode b_M_open 1 = .ok (.iconst 0, 1) := by decide +kernel
theorem d_M_open_2 : decode b_M_open 2 = .ok (.putfield 34, 3) := by decide +kernel
theorem d_M_open_5 : decode b_M_open 5 = .ok (.aload_n 0, 1) := by decide +kernel
theorem d_M_open_6 : decode b_M_open 6 = .ok (.getfield 41, 3) := by decide +kernel
theorem d_M_open_9 : decode b_M_open 9 = .ok (.bipush 30, 2) := by decide +kernel
theorem d_M_open_11 : decode b_M_open 11 = .ok (.if_icmp .ne 9, 3) := by decide +kernel
theorem d_M_open_14 : decode b_M_open 14 = .ok (.aload_n 0, 1) := by decide +kernel
theorem d_M_open_15 : decode b_M_open 15 = .ok (.iconst 1, 1) := by decide +kernel
theorem d_M_open_16 : decode b_M_open 16 = .ok (.invokevirtual 48, 3) := by decide +kernel
theorem d_M_open_19 : decode b_M_open 19 = .ok (.ireturn, 1) := by decide +kernel
theorem d_M_open_20 : decode b_M_open 20 = .ok (.aload_n 0, 1) := by decide +kernel
theorem d_M_open_21 : decode b_M_open 21 = .ok (.dup, 1) := by decide +kernel
theorem d_M_open_22 : decode b_M_open 22 = .ok (.getfield 41, 3) := by decide +kernel
theorem d_M_open_25 : decode b_M_open 25 = .ok (.iconst 1, 1) := by decide +kernel
theorem d_M_open_26 : decode b_M_open 26 = .ok (.iadd, 1) := by decide +kernel
theorem d_M_open_27 : decode b_M_open 27 = .ok (.putfield 41, 3) := by decide +kernel
theorem d_M_open_30 : decode b_M_open 30 = .ok (.iconst 0, 1) := by decide +kernel
theorem d_M_open_31 : decode b_M_open 31 = .ok (.istore_n 1, 1) := by decide +kernel
theorem d_M_open_32 : decode b_M_open 32 = .ok (.iload_n 1, 1) := by decide +kernel
theorem d_M_open_33 : decode b_M_open 33 = .ok (.sipush 256, 3) := by decide +kernel
theorem d_M_open_36 : decode b_M_open 36 = .ok (.if_icmp .ge 43, 3) := by decide +kernel
theorem d_M_open_39 : decode b_M_open 39 = .ok (.aload_n 0, 1) := by decide +kernel
theorem d_M_open_40 : decode b_M_open 40 = .ok (.getfield 9, 3) := by decide +kernel
theorem d_M_open_43 : decode b_M_open 43 = .ok (.aload_n 0, 1) := by decide +kernel
theorem d_M_open_44 : decode b_M_open 44 = .ok (.getfield 41, 3) := by decide +kernel
theorem d_M_open_47 : decode b_M_open 47 = .ok (.aaload, 1) := by decide +kernel
theorem d_M_open_48 : decode b_M_open 48 = .ok (.iload_n 1, 1) := by decide +kernel
theorem d_M_open_49 : decode b_M_open 49 = .ok (.aload_n 0, 1) := by decide +kernel
theorem d_M_open_50 : decode b_M_open 50 = .ok (.getfield 23, 3) := by decide +kernel
theorem d_M_open_53 : decode b_M_open 53 = .ok (.iload_n 1, 1) := by decide +kernel
theorem d_M_open_54 : decode b_M_open 54 = .ok (.laload, 1) := by decide +kernel
theorem d_M_open_55 : decode b_M_open 55 = .ok (.lastore, 1) := by decide +kernel
theorem d_M_open_56 : decode b_M_open 56 = .ok (.aload_n 0, 1) := by decide +kernel
theorem d_M_open_57 : decode b_M_open 57 = .ok (.getfield 16, 3) := by decide +kernel
theorem d_M_open_60 : decode b_M_open 60 = .ok (.aload_n 0, 1) := by decide +kernel
theorem d_M_open_61 : decode b_M_open 61 = .ok (.getfield 41, 3) := by decide +kernel
theorem d_M_open_64 : decode b_M_open 64 = .ok (.aaload, 1) := by decide +kernel
theorem d_M_open_65 : decode b_M_open 65 = .ok (.iload_n 1, 1) := by decide +kernel
theorem d_M_open_66 : decode b_M_open 66 = .ok (.aload_n 0, 1) := by decide +kernel
theorem d_M_open_67 : decode b_M_open 67 = .ok (.getfield 30, 3) := by decide +kernel
theorem d_M_open_70 : decode b_M_open 70 = .ok (.iload_n 1, 1) := by decide +kernel
theorem d_M_open_71 : decode b_M_open 71 = .ok (.baload, 1) := by decide +kernel
theorem d_M_open_72 : decode b_M_open 72 = .ok (.bastore, 1) := by decide +kernel
theorem d_M_open_73 : decode b_M_open 73 = .ok (.iinc 1 1, 3) := by decide +kernel
theorem d_M_open_76 : decode b_M_open 76 = .ok (.goto (-44), 3) := by decide +kernel
theorem d_M_open_79 : decode b_M_open 79 = .ok (.aload_n 0, 1) := by decide +kernel
theorem d_M_open_80 : decode b_M_open 80 = .ok (.getfield 19, 3) := by decide +kernel
theorem d_M_open_83 : decode b_M_open 83 = .ok (.aload_n 0, 1) := by decide +kernel
theorem d_M_open_84 : decode b_M_open 84 = .ok (.getfield 41, 3) := by decide +kernel
theorem d_M_open_87 : decode b_M_open 87 = .ok (.aload_n 0, 1) := by decide +kernel
theorem d_M_open_88 : decode b_M_open 88 = .ok (.getfield 38, 3) := by decide +kernel
theorem d_M_open_91 : decode b_M_open 91 = .ok (.iastore, 1) := by decide +kernel
theorem d_M_open_92 : decode b_M_open 92 = .ok (.aload_n 0, 1) := by decide +kernel
theorem d_M_open_93 : decode b_M_open 93 = .ok (.getfield 41, 3) := by decide +kernel
theorem d_M_open_96 : decode b_M_open 96 = .ok (.ireturn, 1) := by decide +kernel
theorem d_M_fail_0 : decode b_M_fail 0 = .ok (.aload_n 0, 1) := by decide +kernel
theorem d_M_fail_1 : decode b_M_fail 1 = .ok (.iload_n 1, 1) := by decide +kernel
theorem d_M_fail_2 : decode b_M_fail 2 = .ok (.putfield 34, 3) := by decide +kernel
theorem d_M_fail_5 : decode b_M_fail 5 = .ok (.iconst 0, 1) := by decide +kernel
theorem d_M_fail_6 : decode b_M_fail 6 = .ok (.ireturn, 1) := by decide +kernel
theorem d_M_close_0 : decode b_M_close 0 = .ok (.aload_n 0, 1) := by decide +kernel
theorem d_M_close_1 : decode b_M_close 1 = .ok (.iconst 0, 1) := by decide +kernel
theorem d_M_close_2 : decode b_M_close 2 = .ok (.putfield 34, 3) := by decide +kernel
theorem d_M_close_5 : decode b_M_close 5 = .ok (.aload_n 0, 1) := by decide +kernel
theorem d_M_close_6 : decode b_M_close 6 = .ok (.getfield 41, 3) := by decide +kernel
theorem d_M_close_9 : decode b_M_close 9 = .ok (.ifCond .ne 9, 3) := by decide +kernel
theorem d_M_close_12 : decode b_M_close 12 = .ok (.aload_n 0, 1) := by decide +kernel
theorem d_M_close_13 : decode b_M_close 13 = .ok (.iconst 1, 1) := by decide +kernel
theorem d_M_close_14 : decode b_M_close 14 = .ok (.invokevirtual 48, 3) := by decide +kernel
theorem d_M_close_17 : decode b_M_close 17 = .ok (.ireturn, 1) := by decide +kernel
theorem d_M_close_18 : decode b_M_close 18 = .ok (.iload_n 1, 1) := by decide +kernel
theorem d_M_close_19 : decode b_M_close 19 = .ok (.ifCond .ne 65, 3) := by decide +kernel
theorem d_M_close_22 : decode b_M_close 22 = .ok (.iconst 0, 1) := by decide +kernel
theorem d_M_close_23 : decode b_M_close 23 = .ok (.istore_n 2, 1) := by decide +kernel
theorem d_M_close_24 : decode b_M_close 24 = .ok (.iload_n 2, 1) := by decide +kernel
theorem d_M_close_25 : decode b_M_close 25 = .ok (.sipush 256, 3) := by decide +kernel
theorem d_M_close_28 : decode b_M_close 28 = .ok (.if_icmp .ge 43, 3) := by decide +kernel
theorem d_M_close_31 : decode b_M_close 31 = .ok (.aload_n 0, 1) := by decide +kernel
theorem d_M_close_32 : decode b_M_close 32 = .ok (.getfield 23, 3) := by decide +kernel
theorem d_M_close_35 : decode b_M_close 35 = .ok (.iload_n 2, 1) := by decide +kernel
theorem d_M_close_36 : decode b_M_close 36 = .ok (.aload_n 0, 1) := by decide +kernel
theorem d_M_close_37 : decode b_M_close 37 = .ok (.getfield 9, 3) := by decide +kernel
theorem d_M_close_40 : decode b_M_close 40 = .ok (.aload_n 0, 1) := by decide +kernel
theorem d_M_close_41 : decode b_M_close 41 = .ok (.getfield 41, 3) := by decide +kernel
theorem d_M_close_44 : decode b_M_close 44 = .ok (.aaload, 1) := by decide +kernel
theorem d_M_close_45 : decode b_M_close 45 = .ok (.iload_n 2, 1) := by decide +kernel
theorem d_M_close_46 : decode b_M_close 46 = .ok (.laload, 1) := by decide +kernel
theorem d_M_close_47 : decode b_M_close 47 = .ok (.lastore, 1) := by decide +kernel
theorem d_M_close_48 : decode b_M_close 48 = .ok (.aload_n 0, 1) := by decide +kernel
theorem d_M_close_49 : decode b_M_close 49 = .ok (.getfield 30, 3) := by decide +kernel
theorem d_M_close_52 : decode b_M_close 52 = .ok (.iload_n 2, 1) := by decide +kernel
theorem d_M_close_53 : decode b_M_close 53 = .ok (.aload_n 0, 1) := by decide +kernel
theorem d_M_close_54 : decode b_M_close 54 = .ok (.getfield 16, 3) := by decide +kernel
theorem d_M_close_57 : decode b_M_close 57 = .ok (.aload_n 0, 1) := by decide +kernel
theorem d_M_close_58 : decode b_M_close 58 = .ok (.getfield 41, 3) := by decide +kernel
theorem d_M_close_61 : decode b_M_close 61 = .ok (.aaload, 1) := by decide +kernel
theorem d_M_close_62 : decode b_M_close 62 = .ok (.iload_n 2, 1) := by decide +kernel
theorem d_M_close_63 : decode b_M_close 63 = .ok (.baload, 1) := by decide +kernel
theorem d_M_close_64 : decode b_M_close 64 = .ok (.bastore, 1) := by decide +kernel
theorem d_M_close_65 : decode b_M_close 65 = .ok (.iinc 2 1, 3) := by decide +kernel
theorem d_M_close_68 : decode b_M_close 68 = .ok (.goto (-44), 3) := by decide +kernel
theorem d_M_close_71 : decode b_M_close 71 = .ok (.aload_n 0, 1) := by decide +kernel
theorem d_M_close_72 : decode b_M_close 72 = .ok (.aload_n 0, 1) := by decide +kernel
theorem d_M_close_73 : decode b_M_close 73 = .ok (.getfield 19, 3) := by decide +kernel
theorem d_M_close_76 : decode b_M_close 76 = .ok (.aload_n 0, 1) := by decide +kernel
theorem d_M_close_77 : decode b_M_close 77 = .ok (.getfield 41, 3) := by decide +kernel
theorem d_M_close_80 : decode b_M_close 80 = .ok (.iaload, 1) := by decide +kernel
theorem d_M_close_81 : decode b_M_close 81 = .ok (.putfield 38, 3) := by decide +kernel
theorem d_M_close_84 : decode b_M_close 84 = .ok (.aload_n 0, 1) := by decide +kernel
theorem d_M_close_85 : decode b_M_close 85 = .ok (.dup, 1) := by decide +kernel
theorem d_M_close_86 : decode b_M_close 86 = .ok (.getfield 41, 3) := by decide +kernel
theorem d_M_close_89 : decode b_M_close 89 = .ok (.iconst 1, 1) := by decide +kernel
theorem d_M_close_90 : decode b_M_close 90 = .ok (.isub, 1) := by decide +kernel
theorem d_M_close_91 : decode b_M_close 91 = .ok (.putfield 41, 3) := by decide +kernel
theorem d_M_close_94 : decode b_M_close 94 = .ok (.aload_n 0, 1) := by decide +kernel
theorem d_M_close_95 : decode b_M_close 95 = .ok (.getfield 41, 3) := by decide +kernel
theorem d_M_close_98 : decode b_M_close 98 = .ok (.ireturn, 1) := by decide +kernel
theorem d_M_load_0 : decode b_M_load 0 = .ok (.aload_n 0, 1) := by decide +kernel
theorem d_M_load_1 : decode b_M_load 1 = .ok (.iconst 0, 1) := by decide +kernel
theorem d_M_load_2 : decode b_M_load 2 = .ok (.putfield 34, 3) := by decide +kernel
theorem d_M_load_5 : decode b_M_load 5 = .ok (.aload_n 0, 1) := by decide +kernel
theorem d_M_load_6 : decode b_M_load 6 = .ok (.iload_n 1, 1) := by decide +kernel
theorem d_M_load_7 : decode b_M_load 7 = .ok (.iload_n 2, 1) := by decide +kernel
theorem d_M_load_8 : decode b_M_load 8 = .ok (.invokevirtual 52, 3) := by decide +kernel
theorem d_M_load_11 : decode b_M_load 11 = .ok (.ifCond .eq 9, 3) := by decide +kernel
theorem d_M_load_14 : decode b_M_load 14 = .ok (.aload_n 0, 1) := by decide +kernel
theorem d_M_load_15 : decode b_M_load 15 = .ok (.iconst 1, 1) := by decide +kernel
theorem d_M_load_16 : decode b_M_load 16 = .ok (.invokevirtual 48, 3) := by decide +kernel
theorem d_M_load_19 : decode b_M_load 19 = .ok (.ireturn, 1) := by decide +kernel
theorem d_M_load_20 : decode b_M_load 20 = .ok (.aload_n 0, 1) := by decide +kernel
theorem d_M_load_21 : decode b_M_load 21 = .ok (.getfield 30, 3) := by decide +kernel
theorem d_M_load_24 : decode b_M_load 24 = .ok (.bipush 64, 2) := by decide +kernel
theorem d_M_load_26 : decode b_M_load 26 = .ok (.iload_n 1, 1) := by decide +kernel
theorem d_M_load_27 : decode b_M_load 27 = .ok (.imul, 1) := by decide +kernel
theorem d_M_load_28 : decode b_M_load 28 = .ok (.iload_n 2, 1) := by decide +kernel
theorem d_M_load_29 : decode b_M_load 29 = .ok (.iadd, 1) := by decide +kernel
theorem d_M_load_30 : decode b_M_load 30 = .ok (.baload, 1) := by decide +kernel
theorem d_M_load_31 : decode b_M_load 31 = .ok (.ifCond .eq 8, 3) := by decide +kernel
theorem d_M_load_34 : decode b_M_load 34 = .ok (.bipush 100, 2) := by decide +kernel
theorem d_M_load_36 : decode b_M_load 36 = .ok (.goto 6, 3) := by decide +kernel
theorem d_M_load_39 : decode b_M_load 39 = .ok (.sipush 2100, 3) := by decide +kernel
theorem d_M_load_42 : decode b_M_load 42 = .ok (.istore_n 3, 1) := by decide +kernel
theorem d_M_load_43 : decode b_M_load 43 = .ok (.aload_n 0, 1) := by decide +kernel
theorem d_M_load_44 : decode b_M_load 44 = .ok (.getfield 30, 3) := by decide +kernel
theorem d_M_load_47 : decode b_M_load 47 = .ok (.bipush 64, 2) := by decide +kernel
theorem d_M_load_49 : decode b_M_load 49 = .ok (.iload_n 1, 1) := by decide +kernel
theorem d_M_load_50 : decode b_M_load 50 = .ok (.imul, 1) := by decide +kernel
theorem d_M_load_51 : decode b_M_load 51 = .ok (.iload_n 2, 1) := by decide +kernel
theorem d_M_load_52 : decode b_M_load 52 = .ok (.iadd, 1) := by decide +kernel
theorem d_M_load_53 : decode b_M_load 53 = .ok (.iconst 1, 1) := by decide +kernel
theorem d_M_load_54 : decode b_M_load 54 = .ok (.bastore, 1) := by decide +kernel
theorem d_M_load_55 : decode b_M_load 55 = .ok (.iload_n 3, 1) := by decide +kernel
theorem d_M_load_56 : decode b_M_load 56 = .ok (.ireturn, 1) := by decide +kernel
theorem d_M_out_0 : decode b_M_out 0 = .ok (.iload_n 1, 1) := by decide +kernel
theorem d_M_out_1 : decode b_M_out 1 = .ok (.ifCond .lt 18, 3) := by decide +kernel
theorem d_M_out_4 : decode b_M_out 4 = .ok (.iload_n 1, 1) := by decide +kernel
theorem d_M_out_5 : decode b_M_out 5 = .ok (.iconst 3, 1) := by decide +kernel
theorem d_M_out_6 : decode b_M_out 6 = .ok (.if_icmp .gt 13, 3) := by decide +kernel
theorem d_M_out_9 : decode b_M_out 9 = .ok (.iload_n 2, 1) := by decide +kernel
theorem d_M_out_10 : decode b_M_out 10 = .ok (.ifCond .lt 9, 3) := by decide +kernel
theorem d_M_out_13 : decode b_M_out 13 = .ok (.iload_n 2, 1) := by decide +kernel
theorem d_M_out_14 : decode b_M_out 14 = .ok (.bipush 63, 2) := by decide +kernel
theorem d_M_out_16 : decode b_M_out 16 = .ok (.if_icmp .le 7, 3) := by decide +kernel
theorem d_M_out_19 : decode b_M_out 19 = .ok (.iconst 1, 1) := by decide +kernel
theorem d_M_out_20 : decode b_M_out 20 = .ok (.goto 4, 3) := by decide +kernel
theorem d_M_out_23 : decode b_M_out 23 = .ok (.iconst 0, 1) := by decide +kernel
theorem d_M_out_24 : decode b_M_out 24 = .ok (.ireturn, 1) := by decide +kernel
theorem d_M_store_0 : decode b_M_store 0 = .ok (.aload_n 0, 1) := by decide +kernel
theorem d_M_store_1 : decode b_M_store 1 = .ok (.iconst 0, 1) := by decide +kernel
theorem d_M_store_2 : decode b_M_store 2 = .ok (.putfield 34, 3) := by decide +kernel
theorem d_M_store_5 : decode b_M_store 5 = .ok (.aload_n 0, 1) := by decide +kernel
theorem d_M_store_6 : decode b_M_store 6 = .ok (.iload_n 1, 1) := by decide +kernel
theorem d_M_store_7 : decode b_M_store 7 = .ok (.iload_n 2, 1) := by decide +kernel
theorem d_M_store_8 : decode b_M_store 8 = .ok (.invokevirtual 52, 3) := by decide +kernel
theorem d_M_store_11 : decode b_M_store 11 = .ok (.ifCond .eq 9, 3) := by decide +kernel
theorem d_M_store_14 : decode b_M_store 14 = .ok (.aload_n 0, 1) := by decide +kernel
theorem d_M_store_15 : decode b_M_store 15 = .ok (.iconst 1, 1) := by decide +kernel
theorem d_M_store_16 : decode b_M_store 16 = .ok (.invokevirtual 48, 3) := by decide +kernel
theorem d_M_store_19 : decode b_M_store 19 = .ok (.ireturn, 1) := by decide +kernel
theorem d_M_store_20 : decode b_M_store 20 = .ok (.bipush 64, 2) := by decide +kernel
theorem d_M_store_22 : decode b_M_store 22 = .ok (.iload_n 1, 1) := by decide +kernel
theorem d_M_store_23 : decode b_M_store 23 = .ok (.imul, 1) := by decide +kernel
theorem d_M_store_24 : decode b_M_store 24 = .ok (.iload_n 2, 1) := by decide +kernel
theorem d_M_store_25 : decode b_M_store 25 = .ok (.iadd, 1) := by decide +kernel
theorem d_M_store_26 : decode b_M_store 26 = .ok (.istore 6, 2) := by decide +kernel
theorem d_M_store_28 : decode b_M_store 28 = .ok (.aload_n 0, 1) := by decide +kernel
theorem d_M_store_29 : decode b_M_store 29 = .ok (.getfield 30, 3) := by decide +kernel
theorem d_M_store_32 : decode b_M_store 32 = .ok (.iload 6, 2) := by decide +kernel
theorem d_M_store_34 : decode b_M_store 34 = .ok (.baload, 1) := by decide +kernel
theorem d_M_store_35 : decode b_M_store 35 = .ok (.ifCond .eq 7, 3) := by decide +kernel
theorem d_M_store_38 : decode b_M_store 38 = .ok (.iconst 0, 1) := by decide +kernel
theorem d_M_store_39 : decode b_M_store 39 = .ok (.goto 6, 3) := by decide +kernel
theorem d_M_store_42 : decode b_M_store 42 = .ok (.sipush 2100, 3) := by decide +kernel
theorem d_M_store_45 : decode b_M_store 45 = .ok (.istore 7, 2) := by decide +kernel
theorem d_M_store_47 : decode b_M_store 47 = .ok (.iconst 0, 1) := by decide +kernel
theorem d_M_store_48 : decode b_M_store 48 = .ok (.istore 8, 2) := by decide +kernel
theorem d_M_store_50 : decode b_M_store 50 = .ok (.aload_n 0, 1) := by decide +kernel
theorem d_M_store_51 : decode b_M_store 51 = .ok (.getfield 27, 3) := by decide +kernel
theorem d_M_store_54 : decode b_M_store 54 = .ok (.iload 6, 2) := by decide +kernel
theorem d_M_store_56 : decode b_M_store 56 = .ok (.laload, 1) := by decide +kernel
theorem d_M_store_57 : decode b_M_store 57 = .ok (.lstore 9, 2) := by decide +kernel
theorem d_M_store_59 : decode b_M_store 59 = .ok (.aload_n 0, 1) := by decide +kernel
theorem d_M_store_60 : decode b_M_store 60 = .ok (.getfield 23, 3) := by decide +kernel
theorem d_M_store_63 : decode b_M_store 63 = .ok (.iload 6, 2) := by decide +kernel
theorem d_M_store_65 : decode b_M_store 65 = .ok (.laload, 1) := by decide +kernel
theorem d_M_store_66 : decode b_M_store 66 = .ok (.lstore 11, 2) := by decide +kernel
theorem d_M_store_68 : decode b_M_store 68 = .ok (.lload_n 3, 1) := by decide +kernel
theorem d_M_store_69 : decode b_M_store 69 = .ok (.lload 11, 2) := by decide +kernel
theorem d_M_store_71 : decode b_M_store 71 = .ok (.lcmp, 1) := by decide +kernel
theorem d_M_store_72 : decode b_M_store 72 = .ok (.ifCond .ne 9, 3) := by decide +kernel
theorem d_M_store_75 : decode b_M_store 75 = .ok (.iinc 7 100, 3) := by decide +kernel
theorem d_M_store_78 : decode b_M_store 78 = .ok (.goto 123, 3) := by decide +kernel
theorem d_M_store_81 : decode b_M_store 81 = .ok (.lload 9, 2) := by decide +kernel
theorem d_M_store_83 : decode b_M_store 83 = .ok (.lload 11, 2) := by decide +kernel
theorem d_M_store_85 : decode b_M_store 85 = .ok (.lcmp, 1) := by decide +kernel
theorem d_M_store_86 : decode b_M_store 86 = .ok (.ifCond .ne 45, 3) := by decide +kernel
theorem d_M_store_89 : decode b_M_store 89 = .ok (.iload 7, 2) := by decide +kernel
theorem d_M_store_91 : decode b_M_store 91 = .ok (.lload 9, 2) := by decide +kernel
theorem d_M_store_93 : decode b_M_store 93 = .ok (.lconst 0, 1) := by decide +kernel
theorem d_M_store_94 : decode b_M_store 94 = .ok (.lcmp, 1) := by decide +kernel
theorem d_M_store_95 : decode b_M_store 95 = .ok (.ifCond .ne 9, 3) := by decide +kernel
theorem d_M_store_98 : decode b_M_store 98 = .ok (.sipush 20000, 3) := by decide +kernel
theorem d_M_store_101 : decode b_M_store 101 = .ok (.goto 6, 3) := by decide +kernel
theorem d_M_store_104 : decode b_M_store 104 = .ok (.sipush 2900, 3) := by decide +kernel
theorem d_M_store_107 : decode b_M_store 107 = .ok (.iadd, 1) := by decide +kernel
theorem d_M_store_108 : decode b_M_store 108 = .ok (.istore 7, 2) := by decide +kernel
theorem d_M_store_110 : decode b_M_store 110 = .ok (.lload 9, 2) := by decide +kernel
theorem d_M_store_112 : decode b_M_store 112 = .ok (.lconst 0, 1) := by decide +kernel
theorem d_M_store_113 : decode b_M_store 113 = .ok (.lcmp, 1) := by decide +kernel
theorem d_M_store_114 : decode b_M_store 114 = .ok (.ifCond .eq 87, 3) := by decide +kernel
theorem d_M_store_117 : decode b_M_store 117 = .ok (.lload_n 3, 1) := by decide +kernel
theorem d_M_store_118 : decode b_M_store 118 = .ok (.lconst 0, 1) := by decide +kernel
theorem d_M_store_119 : decode b_M_store 119 = .ok (.lcmp, 1) := by decide +kernel
theorem d_M_store_120 : decode b_M_store 120 = .ok (.ifCond .ne 81, 3) := by decide +kernel
theorem d_M_store_123 : decode b_M_store 123 = .ok (.sipush 15000, 3) := by decide +kernel
theorem d_M_store_126 : decode b_M_store 126 = .ok (.istore 8, 2) := by decide +kernel
theorem d_M_store_128 : decode b_M_store 128 = .ok (.goto 73, 3) := by decide +kernel
theorem d_M_store_131 : decode b_M_store 131 = .ok (.iinc 7 100, 3) := by decide +kernel
theorem d_M_store_134 : decode b_M_store 134 = .ok (.lload 9, 2) := by decide +kernel
theorem d_M_store_136 : decode b_M_store 136 = .ok (.lconst 0, 1) := by decide +kernel
theorem d_M_store_137 : decode b_M_store 137 = .ok (.lcmp, 1) := by decide +kernel
theorem d_M_store_138 : decode b_M_store 138 = .ok (.ifCond .eq 16, 3) := by decide +kernel
theorem d_M_store_141 : decode b_M_store 141 = .ok (.lload 11, 2) := by decide +kernel
theorem d_M_store_143 : decode b_M_store 143 = .ok (.lconst 0, 1) := by decide +kernel
theorem d_M_store_144 : decode b_M_store 144 = .ok (.lcmp, 1) := by decide +kernel
theorem d_M_store_145 : decode b_M_store 145 = .ok (.ifCond .ne 9, 3) := by decide +kernel
theorem d_M_store_148 : decode b_M_store 148 = .ok (.iinc 8 (-15000), 6) := by decide +kernel
theorem d_M_store_154 : decode b_M_store 154 = .ok (.lload 9, 2) := by decide +kernel
theorem d_M_store_156 : decode b_M_store 156 = .ok (.lconst 0, 1) := by decide +kernel
theorem d_M_store_157 : decode b_M_store 157 = .ok (.lcmp, 1) := by decide +kernel
theorem d_M_store_158 : decode b_M_store 158 = .ok (.ifCond .eq 15, 3) := by decide +kernel
theorem d_M_store_161 : decode b_M_store 161 = .ok (.lload_n 3, 1) := by decide +kernel
theorem d_M_store_162 : decode b_M_store 162 = .ok (.lconst 0, 1) := by decide +kernel
theorem d_M_store_163 : decode b_M_store 163 = .ok (.lcmp, 1) := by decide +kernel
theorem d_M_store_164 : decode b_M_store 164 = .ok (.ifCond .ne 9, 3) := by decide +kernel
theorem d_M_store_167 : decode b_M_store 167 = .ok (.iinc 8 15000, 6) := by decide +kernel
theorem d_M_store_173 : decode b_M_store 173 = .ok (.lload 9, 2) := by decide +kernel
theorem d_M_store_175 : decode b_M_store 175 = .ok (.lload_n 3, 1) := by decide +kernel
theorem d_M_store_176 : decode b_M_store 176 = .ok (.lcmp, 1) := by decide +kernel
theorem d_M_store_177 : decode b_M_store 177 = .ok (.ifCond .ne 24, 3) := by decide +kernel
theorem d_M_store_180 : decode b_M_store 180 = .ok (.iload 8, 2) := by decide +kernel
theorem d_M_store_182 : decode b_M_store 182 = .ok (.lload 9, 2) := by decide +kernel
theorem d_M_store_184 : decode b_M_store 184 = .ok (.lconst 0, 1) := by decide +kernel
theorem d_M_store_185 : decode b_M_store 185 = .ok (.lcmp, 1) := by decide +kernel
theorem d_M_store_186 : decode b_M_store 186 = .ok (.ifCond .ne 9, 3) := by decide +kernel
theorem d_M_store_189 : decode b_M_store 189 = .ok (.sipush 19900, 3) := by decide +kernel
theorem d_M_store_192 : decode b_M_store 192 = .ok (.goto 6, 3) := by decide +kernel
theorem d_M_store_195 : decode b_M_store 195 = .ok (.sipush 2800, 3) := by decide +kernel
theorem d_M_store_198 : decode b_M_store 198 = .ok (.iadd, 1) := by decide +kernel
theorem d_M_store_199 : decode b_M_store 199 = .ok (.istore 8, 2) := by decide +kernel
theorem d_M_store_201 : decode b_M_store 201 = .ok (.iload 5, 2) := by decide +kernel
theorem d_M_store_203 : decode b_M_store 203 = .ok (.sipush 2300, 3) := by decide +kernel
theorem d_M_store_206 : decode b_M_store 206 = .ok (.if_icmp .le 10, 3) := by decide +kernel
theorem d_M_store_209 : decode b_M_store 209 = .ok (.iload 7, 2) := by decide +kernel
theorem d_M_store_211 : decode b_M_store 211 = .ok (.iload 5, 2) := by decide +kernel
theorem d_M_store_213 : decode b_M_store 213 = .ok (.if_icmp .le 9, 3) := by decide +kernel
theorem d_M_store_216 : decode b_M_store 216 = .ok (.aload_n 0, 1) := by decide +kernel
theorem d_M_store_217 : decode b_M_store 217 = .ok (.iconst 2, 1) := by decide +kernel
theorem d_M_store_218 : decode b_M_store 218 = .ok (.invokevirtual 48, 3) := by decide +kernel
theorem d_M_store_221 : decode b_M_store 221 = .ok (.ireturn, 1) := by decide +kernel
theorem d_M_store_222 : decode b_M_store 222 = .ok (.aload_n 0, 1) := by decide +kernel
theorem d_M_store_223 : decode b_M_store 223 = .ok (.getfield 30, 3) := by decide +kernel
theorem d_M_store_226 : decode b_M_store 226 = .ok (.iload 6, 2) := by decide +kernel
theorem d_M_store_228 : decode b_M_store 228 = .ok (.iconst 1, 1) := by decide +kernel
theorem d_M_store_229 : decode b_M_store 229 = .ok (.bastore, 1) := by decide +kernel
theorem d_M_store_230 : decode b_M_store 230 = .ok (.aload_n 0, 1) := by decide +kernel
theorem d_M_store_231 : decode b_M_store 231 = .ok (.getfield 23, 3) := by decide +kernel
theorem d_M_store_234 : decode b_M_store 234 = .ok (.iload 6, 2) := by decide +kernel
theorem d_M_store_236 : decode b_M_store 236 = .ok (.lload_n 3, 1) := by decide +kernel
theorem d_M_store_237 : decode b_M_store 237 = .ok (.lastore, 1) := by decide +kernel
theorem d_M_store_238 : decode b_M_store 238 = .ok (.aload_n 0, 1) := by decide +kernel
theorem d_M_store_239 : decode b_M_store 239 = .ok (.dup, 1) := by decide +kernel
theorem d_M_store_240 : decode b_M_store 240 = .ok (.getfield 38, 3) := by decide +kernel
theorem d_M_store_243 : decode b_M_store 243 = .ok (.iload 8, 2) := by decide +kernel
theorem d_M_store_245 : decode b_M_store 245 = .ok (.iadd, 1) := by decide +kernel
theorem d_M_store_246 : decode b_M_store 246 = .ok (.putfield 38, 3) := by decide +kernel
theorem d_M_store_249 : decode b_M_store 249 = .ok (.iload 7, 2) := by decide +kernel
theorem d_M_store_251 : decode b_M_store 251 = .ok (.ireturn, 1) := by decide +kernel
theorem d_M_held_0 : decode b_M_held 0 = .ok (.aload_n 0, 1) := by decide +kernel
theorem d_M_held_1 : decode b_M_held 1 = .ok (.iconst 0, 1) := by decide +kernel
theorem d_M_held_2 : decode b_M_held 2 = .ok (.putfield 34, 3) := by decide +kernel
theorem d_M_held_5 : decode b_M_held 5 = .ok (.aload_n 0, 1) := by decide +kernel
theorem d_M_held_6 : decode b_M_held 6 = .ok (.iload_n 1, 1) := by decide +kernel
theorem d_M_held_7 : decode b_M_held 7 = .ok (.iload_n 2, 1) := by decide +kernel
theorem d_M_held_8 : decode b_M_held 8 = .ok (.invokevirtual 52, 3) := by decide +kernel
theorem d_M_held_11 : decode b_M_held 11 = .ok (.ifCond .eq 10, 3) := by decide +kernel
theorem d_M_held_14 : decode b_M_held 14 = .ok (.aload_n 0, 1) := by decide +kernel
theorem d_M_held_15 : decode b_M_held 15 = .ok (.iconst 1, 1) := by decide +kernel
theorem d_M_held_16 : decode b_M_held 16 = .ok (.invokevirtual 48, 3) := by decide +kernel
theorem d_M_held_19 : decode b_M_held 19 = .ok (.i2l, 1) := by decide +kernel
theorem d_M_held_20 : decode b_M_held 20 = .ok (.lreturn, 1) := by decide +kernel
theorem d_M_held_21 : decode b_M_held 21 = .ok (.iload_n 3, 1) := by decide +kernel
theorem d_M_held_22 : decode b_M_held 22 = .ok (.ifCond .eq 17, 3) := by decide +kernel
theorem d_M_held_25 : decode b_M_held 25 = .ok (.aload_n 0, 1) := by decide +kernel
theorem d_M_held_26 : decode b_M_held 26 = .ok (.getfield 27, 3) := by decide +kernel
theorem d_M_held_29 : decode b_M_held 29 = .ok (.bipush 64, 2) := by decide +kernel
theorem d_M_held_31 : decode b_M_held 31 = .ok (.iload_n 1, 1) := by decide +kernel
theorem d_M_held_32 : decode b_M_held 32 = .ok (.imul, 1) := by decide +kernel
theorem d_M_held_33 : decode b_M_held 33 = .ok (.iload_n 2, 1) := by decide +kernel
theorem d_M_held_34 : decode b_M_held 34 = .ok (.iadd, 1) := by decide +kernel
theorem d_M_held_35 : decode b_M_held 35 = .ok (.laload, 1) := by decide +kernel
theorem d_M_held_36 : decode b_M_held 36 = .ok (.goto 14, 3) := by decide +kernel
theorem d_M_held_39 : decode b_M_held 39 = .ok (.aload_n 0, 1) := by decide +kernel
theorem d_M_held_40 : decode b_M_held 40 = .ok (.getfield 23, 3) := by decide +kernel
theorem d_M_held_43 : decode b_M_held 43 = .ok (.bipush 64, 2) := by decide +kernel
theorem d_M_held_45 : decode b_M_held 45 = .ok (.iload_n 1, 1) := by decide +kernel
theorem d_M_held_46 : decode b_M_held 46 = .ok (.imul, 1) := by decide +kernel
theorem d_M_held_47 : decode b_M_held 47 = .ok (.iload_n 2, 1) := by decide +kernel
theorem d_M_held_48 : decode b_M_held 48 = .ok (.iadd, 1) := by decide +kernel
theorem d_M_held_49 : decode b_M_held 49 = .ok (.laload, 1) := by decide +kernel
theorem d_M_held_50 : decode b_M_held 50 = .ok (.lreturn, 1) := by decide +kernel
theorem d_M_touched_0 : decode b_M_touched 0 = .ok (.aload_n 0, 1) := by decide +kernel
theorem d_M_touched_1 : decode b_M_touched 1 = .ok (.iconst 0, 1) := by decide +kernel
theorem d_M_touched_2 : decode b_M_touched 2 = .ok (.putfield 34, 3) := by decide +kernel
theorem d_M_touched_5 : decode b_M_touched 5 = .ok (.aload_n 0, 1) := by decide +kernel
theorem d_M_touched_6 : decode b_M_touched 6 = .ok (.iload_n 1, 1) := by decide +kernel
theorem d_M_touched_7 : decode b_M_touched 7 = .ok (.iload_n 2, 1) := by decide +kernel
theorem d_M_touched_8 : decode b_M_touched 8 = .ok (.invokevirtual 52, 3) := by decide +kernel
theorem d_M_touched_11 : decode b_M_touched 11 = .ok (.ifCond .eq 19, 3) := by decide +kernel
theorem d_M_touched_14 : decode b_M_touched 14 = .ok (.aload_n 0, 1) := by decide +kernel
theorem d_M_touched_15 : decode b_M_touched 15 = .ok (.iconst 1, 1) := by decide +kernel
theorem d_M_touched_16 : decode b_M_touched 16 = .ok (.invokevirtual 48, 3) := by decide +kernel
theorem d_M_touched_19 : decode b_M_touched 19 = .ok (.ifCond .le 7, 3) := by decide +kernel
theorem d_M_touched_22 : decode b_M_touched 22 = .ok (.iconst 1, 1) := by decide +kernel
theorem d_M_touched_23 : decode b_M_touched 23 = .ok (.goto 18, 3) := by decide +kernel
theorem d_M_touched_26 : decode b_M_touched 26 = .ok (.iconst 0, 1) := by decide +kernel
theorem d_M_touched_27 : decode b_M_touched 27 = .ok (.goto 14, 3) := by decide +kernel
theorem d_M_touched_30 : decode b_M_touched 30 = .ok (.aload_n 0, 1) := by decide +kernel
theorem d_M_touched_31 : decode b_M_touched 31 = .ok (.getfield 30, 3) := by decide +kernel
theorem d_M_touched_34 : decode b_M_touched 34 = .ok (.bipush 64, 2) := by decide +kernel
theorem d_M_touched_36 : decode b_M_touched 36 = .ok (.iload_n 1, 1) := by decide +kernel
theorem d_M_touched_37 : decode b_M_touched 37 = .ok (.imul, 1) := by decide +kernel
theorem d_M_touched_38 : decode b_M_touched 38 = .ok (.iload_n 2, 1) := by decide +kernel
theorem d_M_touched_39 : decode b_M_touched 39 = .ok (.iadd, 1) := by decide +kernel
theorem d_M_touched_40 : decode b_M_touched 40 = .ok (.baload, 1) := by decide +kernel
theorem d_M_touched_41 : decode b_M_touched 41 = .ok (.ireturn, 1) := by decide +kernel
theorem d_M_count_0 : decode b_M_count 0 = .ok (.aload_n 0, 1) := by decide +kernel
theorem d_M_count_1 : decode b_M_count 1 = .ok (.iconst 0, 1) := by decide +kernel
theorem d_M_count_2 : decode b_M_count 2 = .ok (.putfield 34, 3) := by decide +kernel
theorem d_M_count_5 : decode b_M_count 5 = .ok (.iload_n 1, 1) := by decide +kernel
theorem d_M_count_6 : decode b_M_count 6 = .ok (.ifCond .lt 8, 3) := by decide +kernel
theorem d_M_count_9 : decode b_M_count 9 = .ok (.iload_n 1, 1) := by decide +kernel
theorem d_M_count_10 : decode b_M_count 10 = .ok (.iconst 3, 1) := by decide +kernel
theorem d_M_count_11 : decode b_M_count 11 = .ok (.if_icmp .le 9, 3) := by decide +kernel
theorem d_M_count_14 : decode b_M_count 14 = .ok (.aload_n 0, 1) := by decide +kernel
theorem d_M_count_15 : decode b_M_count 15 = .ok (.iconst 1, 1) := by decide +kernel
theorem d_M_count_16 : decode b_M_count 16 = .ok (.invokevirtual 48, 3) := by decide +kernel
theorem d_M_count_19 : decode b_M_count 19 = .ok (.ireturn, 1) := by decide +kernel
theorem d_M_count_20 : decode b_M_count 20 = .ok (.iconst 0, 1) := by decide +kernel
theorem d_M_count_21 : decode b_M_count 21 = .ok (.istore_n 2, 1) := by decide +kernel
theorem d_M_count_22 : decode b_M_count 22 = .ok (.iconst 0, 1) := by decide +kernel
theorem d_M_count_23 : decode b_M_count 23 = .ok (.istore_n 3, 1) := by decide +kernel
theorem d_M_count_24 : decode b_M_count 24 = .ok (.iload_n 3, 1) := by decide +kernel
theorem d_M_count_25 : decode b_M_count 25 = .ok (.sipush 256, 3) := by decide +kernel
theorem d_M_count_28 : decode b_M_count 28 = .ok (.if_icmp .ge 26, 3) := by decide +kernel
theorem d_M_count_31 : decode b_M_count 31 = .ok (.iload_n 2, 1) := by decide +kernel
theorem d_M_count_32 : decode b_M_count 32 = .ok (.aload_n 0, 1) := by decide +kernel
theorem d_M_count_33 : decode b_M_count 33 = .ok (.getfield 30, 3) := by decide +kernel
theorem d_M_count_36 : decode b_M_count 36 = .ok (.iload_n 3, 1) := by decide +kernel
theorem d_M_count_37 : decode b_M_count 37 = .ok (.baload, 1) := by decide +kernel
theorem d_M_count_38 : decode b_M_count 38 = .ok (.ifCond .eq 7, 3) := by decide +kernel
theorem d_M_count_41 : decode b_M_count 41 = .ok (.iconst 1, 1) := by decide +kernel
theorem d_M_count_42 : decode b_M_count 42 = .ok (.goto 4, 3) := by decide +kernel
theorem d_M_count_45 : decode b_M_count 45 = .ok (.iconst 0, 1) := by decide +kernel
theorem d_M_count_46 : decode b_M_count 46 = .ok (.iadd, 1) := by decide +kernel
theorem d_M_count_47 : decode b_M_count 47 = .ok (.istore_n 2, 1) := by decide +kernel
theorem d_M_count_48 : decode b_M_count 48 = .ok (.iinc 3 1, 3) := by decide +kernel
theorem d_M_count_51 : decode b_M_count 51 = .ok (.goto (-27), 3) := by decide +kernel
theorem d_M_count_54 : decode b_M_count 54 = .ok (.iload_n 1, 1) := by decide +kernel
theorem d_M_count_55 : decode b_M_count 55 = .ok (.ifCond .ne 10, 3) := by decide +kernel
theorem d_M_count_58 : decode b_M_count 58 = .ok (.aload_n 0, 1) := by decide +kernel
theorem d_M_count_59 : decode b_M_count 59 = .ok (.getfield 38, 3) := by decide +kernel
theorem d_M_count_62 : decode b_M_count 62 = .ok (.goto 28, 3) := by decide +kernel
theorem d_M_count_65 : decode b_M_count 65 = .ok (.iload_n 1, 1) := by decide +kernel
theorem d_M_count_66 : decode b_M_count 66 = .ok (.iconst 1, 1) := by decide +kernel
theorem d_M_count_67 : decode b_M_count 67 = .ok (.if_icmp .ne 7, 3) := by decide +kernel
theorem d_M_count_70 : decode b_M_count 70 = .ok (.iload_n 2, 1) := by decide +kernel
theorem d_M_count_71 : decode b_M_count 71 = .ok (.goto 19, 3) := by decide +kernel
theorem d_M_count_74 : decode b_M_count 74 = .ok (.iload_n 1, 1) := by decide +kernel
theorem d_M_count_75 : decode b_M_count 75 = .ok (.iconst 2, 1) := by decide +kernel
theorem d_M_count_76 : decode b_M_count 76 = .ok (.if_icmp .ne 10, 3) := by decide +kernel
theorem d_M_count_79 : decode b_M_count 79 = .ok (.aload_n 0, 1) := by decide +kernel
theorem d_M_count_80 : decode b_M_count 80 = .ok (.getfield 41, 3) := by decide +kernel
theorem d_M_count_83 : decode b_M_count 83 = .ok (.goto 7, 3) := by decide +kernel
theorem d_M_count_86 : decode b_M_count 86 = .ok (.aload_n 0, 1) := by decide +kernel
theorem d_M_count_87 : decode b_M_count 87 = .ok (.invokevirtual 44, 3) := by decide +kernel
theorem d_M_count_90 : decode b_M_count 90 = .ok (.ireturn, 1) := by decide +kernel
