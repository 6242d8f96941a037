theorem d_X_init_0 : decode b_X_init 0 = .ok (.aload_n 0, 1) := by decide +kernel
theorem d_X_init_1 : decode b_X_init 1 = .ok (.invokespecial 3, 3) := by decide +kernel
theorem d_X_init_4 : decode b_X_init 4 = .ok (.aload_n 0, 1) := by decide +kernel
theorem d_X_init_5 : decode b_X_init 5 = .ok (.sipush 256, 3) := by decide +kernel
theorem d_X_init_8 : decode b_X_init 8 = .ok (.newarray .long, 2) := by decide +kernel
theorem d_X_init_10 : decode b_X_init 10 = .ok (.putfield 9, 3) := by decide +kernel
theorem d_X_init_13 : decode b_X_init 13 = .ok (.aload_n 0, 1) := by decide +kernel
theorem d_X_init_14 : decode b_X_init 14 = .ok (.bipush 31, 2) := by decide +kernel
theorem d_X_init_16 : decode b_X_init 16 = .ok (.anewarray 13, 3) := by decide +kernel
theorem d_X_init_19 : decode b_X_init 19 = .ok (.putfield 15, 3) := by decide +kernel
theorem d_X_init_22 : decode b_X_init 22 = .ok (.aload_n 0, 1) := by decide +kernel
theorem d_X_init_23 : decode b_X_init 23 = .ok (.iconst 0, 1) := by decide +kernel
theorem d_X_init_24 : decode b_X_init 24 = .ok (.putfield 19, 3) := by decide +kernel
theorem d_X_init_27 : decode b_X_init 27 = .ok (.iconst 0, 1) := by decide +kernel
theorem d_X_init_28 : decode b_X_init 28 = .ok (.istore_n 1, 1) := by decide +kernel
theorem d_X_init_29 : decode b_X_init 29 = .ok (.iload_n 1, 1) := by decide +kernel
theorem d_X_init_30 : decode b_X_init 30 = .ok (.aload_n 0, 1) := by decide +kernel
theorem d_X_init_31 : decode b_X_init 31 = .ok (.getfield 15, 3) := by decide +kernel
theorem d_X_init_34 : decode b_X_init 34 = .ok (.arraylength, 1) := by decide +kernel
theorem d_X_init_35 : decode b_X_init 35 = .ok (.if_icmp .ge 22, 3) := by decide +kernel
theorem d_X_init_38 : decode b_X_init 38 = .ok (.aload_n 0, 1) := by decide +kernel
theorem d_X_init_39 : decode b_X_init 39 = .ok (.getfield 15, 3) := by decide +kernel
theorem d_X_init_42 : decode b_X_init 42 = .ok (.iload_n 1, 1) := by decide +kernel
theorem d_X_init_43 : decode b_X_init 43 = .ok (.new 13, 3) := by decide +kernel
theorem d_X_init_46 : decode b_X_init 46 = .ok (.dup, 1) := by decide +kernel
theorem d_X_init_47 : decode b_X_init 47 = .ok (.invokespecial 23, 3) := by decide +kernel
theorem d_X_init_50 : decode b_X_init 50 = .ok (.aastore, 1) := by decide +kernel
theorem d_X_init_51 : decode b_X_init 51 = .ok (.iinc 1 1, 3) := by decide +kernel
theorem d_X_init_54 : decode b_X_init 54 = .ok (.goto (-25), 3) := by decide +kernel
theorem d_X_init_57 : decode b_X_init 57 = .ok (.return_, 1) := by decide +kernel
theorem d_S_init_0 : decode b_S_init 0 = .ok (.aload_n 0, 1) := by decide +kernel
theorem d_S_init_1 : decode b_S_init 1 = .ok (.invokespecial 3, 3) := by decide +kernel
theorem d_S_init_4 : decode b_S_init 4 = .ok (.aload_n 0, 1) := by decide +kernel
theorem d_S_init_5 : decode b_S_init 5 = .ok (.sipush 256, 3) := by decide +kernel
theorem d_S_init_8 : decode b_S_init 8 = .ok (.newarray .long, 2) := by decide +kernel
theorem d_S_init_10 : decode b_S_init 10 = .ok (.putfield 9, 3) := by decide +kernel
theorem d_S_init_13 : decode b_S_init 13 = .ok (.aload_n 0, 1) := by decide +kernel
theorem d_S_init_14 : decode b_S_init 14 = .ok (.iconst 4, 1) := by decide +kernel
theorem d_S_init_15 : decode b_S_init 15 = .ok (.newarray .long, 2) := by decide +kernel
theorem d_S_init_17 : decode b_S_init 17 = .ok (.putfield 15, 3) := by decide +kernel
theorem d_S_init_20 : decode b_S_init 20 = .ok (.aload_n 0, 1) := by decide +kernel
theorem d_S_init_21 : decode b_S_init 21 = .ok (.iconst 0, 1) := by decide +kernel
theorem d_S_init_22 : decode b_S_init 22 = .ok (.putfield 18, 3) := by decide +kernel
theorem d_S_init_25 : decode b_S_init 25 = .ok (.return_, 1) := by decide +kernel
theorem d_X_begin_0 : decode b_X_begin 0 = .ok (.aload_n 0, 1) := by decide +kernel
theorem d_X_begin_1 : decode b_X_begin 1 = .ok (.getfield 15, 3) := by decide +kernel
theorem d_X_begin_4 : decode b_X_begin 4 = .ok (.iconst 0, 1) := by decide +kernel
theorem d_X_begin_5 : decode b_X_begin 5 = .ok (.aaload, 1) := by decide +kernel
theorem d_X_begin_6 : decode b_X_begin 6 = .ok (.astore_n 1, 1) := by decide +kernel
theorem d_X_begin_7 : decode b_X_begin 7 = .ok (.aload_n 0, 1) := by decide +kernel
theorem d_X_begin_8 : decode b_X_begin 8 = .ok (.getfield 19, 3) := by decide +kernel
theorem d_X_begin_11 : decode b_X_begin 11 = .ok (.ifCond .le 16, 3) := by decide +kernel
theorem d_X_begin_14 : decode b_X_begin 14 = .ok (.aload_n 1, 1) := by decide +kernel
theorem d_X_begin_15 : decode b_X_begin 15 = .ok (.aload_n 0, 1) := by decide +kernel
theorem d_X_begin_16 : decode b_X_begin 16 = .ok (.getfield 15, 3) := by decide +kernel
theorem d_X_begin_19 : decode b_X_begin 19 = .ok (.aload_n 0, 1) := by decide +kernel
theorem d_X_begin_20 : decode b_X_begin 20 = .ok (.getfield 19, 3) := by decide +kernel
theorem d_X_begin_23 : decode b_X_begin 23 = .ok (.aaload, 1) := by decide +kernel
theorem d_X_begin_24 : decode b_X_begin 24 = .ok (.invokevirtual 24, 3) := by decide +kernel
theorem d_X_begin_27 : decode b_X_begin 27 = .ok (.aload_n 0, 1) := by decide +kernel
theorem d_X_begin_28 : decode b_X_begin 28 = .ok (.iconst 0, 1) := by decide +kernel
theorem d_X_begin_29 : decode b_X_begin 29 = .ok (.putfield 19, 3) := by decide +kernel
theorem d_X_begin_32 : decode b_X_begin 32 = .ok (.aload_n 1, 1) := by decide +kernel
theorem d_X_begin_33 : decode b_X_begin 33 = .ok (.invokevirtual 28, 3) := by decide +kernel
theorem d_X_begin_36 : decode b_X_begin 36 = .ok (.aload_n 1, 1) := by decide +kernel
theorem d_X_begin_37 : decode b_X_begin 37 = .ok (.getfield 31, 3) := by decide +kernel
theorem d_X_begin_40 : decode b_X_begin 40 = .ok (.iconst 0, 1) := by decide +kernel
theorem d_X_begin_41 : decode b_X_begin 41 = .ok (.aload_n 0, 1) := by decide +kernel
theorem d_X_begin_42 : decode b_X_begin 42 = .ok (.getfield 9, 3) := by decide +kernel
theorem d_X_begin_45 : decode b_X_begin 45 = .ok (.iconst 0, 1) := by decide +kernel
theorem d_X_begin_46 : decode b_X_begin 46 = .ok (.sipush 256, 3) := by decide +kernel
theorem d_X_begin_49 : decode b_X_begin 49 = .ok (.invokestatic 34, 3) := by decide +kernel
theorem d_X_begin_52 : decode b_X_begin 52 = .ok (.aload_n 1, 1) := by decide +kernel
theorem d_X_begin_53 : decode b_X_begin 53 = .ok (.invokevirtual 40, 3) := by decide +kernel
theorem d_X_begin_56 : decode b_X_begin 56 = .ok (.ireturn, 1) := by decide +kernel
theorem d_S_copyFrom_0 : decode b_S_copyFrom 0 = .ok (.aload_n 1, 1) := by decide +kernel
theorem d_S_copyFrom_1 : decode b_S_copyFrom 1 = .ok (.getfield 9, 3) := by decide +kernel
theorem d_S_copyFrom_4 : decode b_S_copyFrom 4 = .ok (.iconst 0, 1) := by decide +kernel
theorem d_S_copyFrom_5 : decode b_S_copyFrom 5 = .ok (.aload_n 0, 1) := by decide +kernel
theorem d_S_copyFrom_6 : decode b_S_copyFrom 6 = .ok (.getfield 9, 3) := by decide +kernel
theorem d_S_copyFrom_9 : decode b_S_copyFrom 9 = .ok (.iconst 0, 1) := by decide +kernel
theorem d_S_copyFrom_10 : decode b_S_copyFrom 10 = .ok (.sipush 256, 3) := by decide +kernel
theorem d_S_copyFrom_13 : decode b_S_copyFrom 13 = .ok (.invokestatic 22, 3) := by decide +kernel
theorem d_S_copyFrom_16 : decode b_S_copyFrom 16 = .ok (.aload_n 1, 1) := by decide +kernel
theorem d_S_copyFrom_17 : decode b_S_copyFrom 17 = .ok (.getfield 15, 3) := by decide +kernel
theorem d_S_copyFrom_20 : decode b_S_copyFrom 20 = .ok (.iconst 0, 1) := by decide +kernel
theorem d_S_copyFrom_21 : decode b_S_copyFrom 21 = .ok (.aload_n 0, 1) := by decide +kernel
theorem d_S_copyFrom_22 : decode b_S_copyFrom 22 = .ok (.getfield 15, 3) := by decide +kernel
theorem d_S_copyFrom_25 : decode b_S_copyFrom 25 = .ok (.iconst 0, 1) := by decide +kernel
theorem d_S_copyFrom_26 : decode b_S_copyFrom 26 = .ok (.iconst 4, 1) := by decide +kernel
theorem d_S_copyFrom_27 : decode b_S_copyFrom 27 = .ok (.invokestatic 22, 3) := by decide +kernel
theorem d_S_copyFrom_30 : decode b_S_copyFrom 30 = .ok (.aload_n 0, 1) := by decide +kernel
theorem d_S_copyFrom_31 : decode b_S_copyFrom 31 = .ok (.aload_n 1, 1) := by decide +kernel
theorem d_S_copyFrom_32 : decode b_S_copyFrom 32 = .ok (.getfield 18, 3) := by decide +kernel
theorem d_S_copyFrom_35 : decode b_S_copyFrom 35 = .ok (.putfield 18, 3) := by decide +kernel
theorem d_S_copyFrom_38 : decode b_S_copyFrom 38 = .ok (.return_, 1) := by decide +kernel
theorem d_S_forgetCosts_0 : decode b_S_forgetCosts 0 = .ok (.iconst 0, 1) := by decide +kernel
theorem d_S_forgetCosts_1 : decode b_S_forgetCosts 1 = .ok (.istore_n 1, 1) := by decide +kernel
theorem d_S_forgetCosts_2 : decode b_S_forgetCosts 2 = .ok (.iload_n 1, 1) := by decide +kernel
theorem d_S_forgetCosts_3 : decode b_S_forgetCosts 3 = .ok (.iconst 4, 1) := by decide +kernel
theorem d_S_forgetCosts_4 : decode b_S_forgetCosts 4 = .ok (.if_icmp .ge 16, 3) := by decide +kernel
theorem d_S_forgetCosts_7 : decode b_S_forgetCosts 7 = .ok (.aload_n 0, 1) := by decide +kernel
theorem d_S_forgetCosts_8 : decode b_S_forgetCosts 8 = .ok (.getfield 15, 3) := by decide +kernel
theorem d_S_forgetCosts_11 : decode b_S_forgetCosts 11 = .ok (.iload_n 1, 1) := by decide +kernel
theorem d_S_forgetCosts_12 : decode b_S_forgetCosts 12 = .ok (.lconst 0, 1) := by decide +kernel
theorem d_S_forgetCosts_13 : decode b_S_forgetCosts 13 = .ok (.lastore, 1) := by decide +kernel
theorem d_S_forgetCosts_14 : decode b_S_forgetCosts 14 = .ok (.iinc 1 1, 3) := by decide +kernel
theorem d_S_forgetCosts_17 : decode b_S_forgetCosts 17 = .ok (.goto (-15), 3) := by decide +kernel
theorem d_S_forgetCosts_20 : decode b_S_forgetCosts 20 = .ok (.aload_n 0, 1) := by decide +kernel
theorem d_S_forgetCosts_21 : decode b_S_forgetCosts 21 = .ok (.iconst 0, 1) := by decide +kernel
theorem d_S_forgetCosts_22 : decode b_S_forgetCosts 22 = .ok (.putfield 18, 3) := by decide +kernel
theorem d_S_forgetCosts_25 : decode b_S_forgetCosts 25 = .ok (.return_, 1) := by decide +kernel
theorem d_S_filledPlaces_0 : decode b_S_filledPlaces 0 = .ok (.iconst 0, 1) := by decide +kernel
theorem d_S_filledPlaces_1 : decode b_S_filledPlaces 1 = .ok (.istore_n 1, 1) := by decide +kernel
theorem d_S_filledPlaces_2 : decode b_S_filledPlaces 2 = .ok (.iconst 0, 1) := by decide +kernel
theorem d_S_filledPlaces_3 : decode b_S_filledPlaces 3 = .ok (.istore_n 2, 1) := by decide +kernel
theorem d_S_filledPlaces_4 : decode b_S_filledPlaces 4 = .ok (.iload_n 2, 1) := by decide +kernel
theorem d_S_filledPlaces_5 : decode b_S_filledPlaces 5 = .ok (.sipush 256, 3) := by decide +kernel
theorem d_S_filledPlaces_8 : decode b_S_filledPlaces 8 = .ok (.if_icmp .ge 23, 3) := by decide +kernel
theorem d_S_filledPlaces_11 : decode b_S_filledPlaces 11 = .ok (.aload_n 0, 1) := by decide +kernel
theorem d_S_filledPlaces_12 : decode b_S_filledPlaces 12 = .ok (.getfield 9, 3) := by decide +kernel
theorem d_S_filledPlaces_15 : decode b_S_filledPlaces 15 = .ok (.iload_n 2, 1) := by decide +kernel
theorem d_S_filledPlaces_16 : decode b_S_filledPlaces 16 = .ok (.laload, 1) := by decide +kernel
theorem d_S_filledPlaces_17 : decode b_S_filledPlaces 17 = .ok (.lconst 0, 1) := by decide +kernel
theorem d_S_filledPlaces_18 : decode b_S_filledPlaces 18 = .ok (.lcmp, 1) := by decide +kernel
theorem d_S_filledPlaces_19 : decode b_S_filledPlaces 19 = .ok (.ifCond .eq 6, 3) := by decide +kernel
theorem d_S_filledPlaces_22 : decode b_S_filledPlaces 22 = .ok (.iinc 1 1, 3) := by decide +kernel
theorem d_S_filledPlaces_25 : decode b_S_filledPlaces 25 = .ok (.iinc 2 1, 3) := by decide +kernel
theorem d_S_filledPlaces_28 : decode b_S_filledPlaces 28 = .ok (.goto (-24), 3) := by decide +kernel
theorem d_S_filledPlaces_31 : decode b_S_filledPlaces 31 = .ok (.iload_n 1, 1) := by decide +kernel
theorem d_S_filledPlaces_32 : decode b_S_filledPlaces 32 = .ok (.ireturn, 1) := by decide +kernel
theorem d_X_open_0 : decode b_X_open 0 = .ok (.aload_n 0, 1) := by decide +kernel
theorem d_X_open_1 : decode b_X_open 1 = .ok (.getfield 19, 3) := by decide +kernel
theorem d_X_open_4 : decode b_X_open 4 = .ok (.bipush 30, 2) := by decide +kernel
theorem d_X_open_6 : decode b_X_open 6 = .ok (.if_icmp .lt 13, 3) := by decide +kernel
theorem d_X_open_9 : decode b_X_open 9 = .ok (.new 44, 3) := by decide +kernel
theorem d_X_open_12 : decode b_X_open 12 = .ok (.dup, 1) := by decide +kernel
theorem d_X_open_13 : decode b_X_open 13 = .ok (.ldc 46, 2) := by decide +kernel
theorem d_X_open_15 : decode b_X_open 15 = .ok (.invokespecial 48, 3) := by decide +kernel
theorem d_X_open_18 : decode b_X_open 18 = .ok (.athrow, 1) := by decide +kernel
theorem d_X_open_19 : decode b_X_open 19 = .ok (.aload_n 0, 1) := by decide +kernel
theorem d_X_open_20 : decode b_X_open 20 = .ok (.getfield 15, 3) := by decide +kernel
theorem d_X_open_23 : decode b_X_open 23 = .ok (.aload_n 0, 1) := by decide +kernel
theorem d_X_open_24 : decode b_X_open 24 = .ok (.getfield 19, 3) := by decide +kernel
theorem d_X_open_27 : decode b_X_open 27 = .ok (.iconst 1, 1) := by decide +kernel
theorem d_X_open_28 : decode b_X_open 28 = .ok (.iadd, 1) := by decide +kernel
theorem d_X_open_29 : decode b_X_open 29 = .ok (.aaload, 1) := by decide +kernel
theorem d_X_open_30 : decode b_X_open 30 = .ok (.aload_n 0, 1) := by decide +kernel
theorem d_X_open_31 : decode b_X_open 31 = .ok (.getfield 15, 3) := by decide +kernel
theorem d_X_open_34 : decode b_X_open 34 = .ok (.aload_n 0, 1) := by decide +kernel
theorem d_X_open_35 : decode b_X_open 35 = .ok (.getfield 19, 3) := by decide +kernel
theorem d_X_open_38 : decode b_X_open 38 = .ok (.aaload, 1) := by decide +kernel
theorem d_X_open_39 : decode b_X_open 39 = .ok (.invokevirtual 24, 3) := by decide +kernel
theorem d_X_open_42 : decode b_X_open 42 = .ok (.aload_n 0, 1) := by decide +kernel
theorem d_X_open_43 : decode b_X_open 43 = .ok (.dup, 1) := by decide +kernel
theorem d_X_open_44 : decode b_X_open 44 = .ok (.getfield 19, 3) := by decide +kernel
theorem d_X_open_47 : decode b_X_open 47 = .ok (.iconst 1, 1) := by decide +kernel
theorem d_X_open_48 : decode b_X_open 48 = .ok (.iadd, 1) := by decide +kernel
theorem d_X_open_49 : decode b_X_open 49 = .ok (.putfield 19, 3) := by decide +kernel
theorem d_X_open_52 : decode b_X_open 52 = .ok (.aload_n 0, 1) := by decide +kernel
theorem d_X_open_53 : decode b_X_open 53 = .ok (.getfield 19, 3) := by decide +kernel
theorem d_X_open_56 : decode b_X_open 56 = .ok (.ireturn, 1) := by decide +kernel
theorem d_X_close_0 : decode b_X_close 0 = .ok (.aload_n 0, 1) := by decide +kernel
theorem d_X_close_1 : decode b_X_close 1 = .ok (.getfield 19, 3) := by decide +kernel
theorem d_X_close_4 : decode b_X_close 4 = .ok (.ifCond .gt 13, 3) := by decide +kernel
theorem d_X_close_7 : decode b_X_close 7 = .ok (.new 51, 3) := by decide +kernel
theorem d_X_close_10 : decode b_X_close 10 = .ok (.dup, 1) := by decide +kernel
theorem d_X_close_11 : decode b_X_close 11 = .ok (.ldc 53, 2) := by decide +kernel
theorem d_X_close_13 : decode b_X_close 13 = .ok (.invokespecial 55, 3) := by decide +kernel
theorem d_X_close_16 : decode b_X_close 16 = .ok (.athrow, 1) := by decide +kernel
theorem d_X_close_17 : decode b_X_close 17 = .ok (.iload_n 1, 1) := by decide +kernel
theorem d_X_close_18 : decode b_X_close 18 = .ok (.ifCond .eq 26, 3) := by decide +kernel
theorem d_X_close_21 : decode b_X_close 21 = .ok (.aload_n 0, 1) := by decide +kernel
theorem d_X_close_22 : decode b_X_close 22 = .ok (.getfield 15, 3) := by decide +kernel
theorem d_X_close_25 : decode b_X_close 25 = .ok (.aload_n 0, 1) := by decide +kernel
theorem d_X_close_26 : decode b_X_close 26 = .ok (.getfield 19, 3) := by decide +kernel
theorem d_X_close_29 : decode b_X_close 29 = .ok (.iconst 1, 1) := by decide +kernel
theorem d_X_close_30 : decode b_X_close 30 = .ok (.isub, 1) := by decide +kernel
theorem d_X_close_31 : decode b_X_close 31 = .ok (.aaload, 1) := by decide +kernel
theorem d_X_close_32 : decode b_X_close 32 = .ok (.aload_n 0, 1) := by decide +kernel
theorem d_X_close_33 : decode b_X_close 33 = .ok (.getfield 15, 3) := by decide +kernel
theorem d_X_close_36 : decode b_X_close 36 = .ok (.aload_n 0, 1) := by decide +kernel
theorem d_X_close_37 : decode b_X_close 37 = .ok (.getfield 19, 3) := by decide +kernel
theorem d_X_close_40 : decode b_X_close 40 = .ok (.aaload, 1) := by decide +kernel
theorem d_X_close_41 : decode b_X_close 41 = .ok (.invokevirtual 24, 3) := by decide +kernel
theorem d_X_close_44 : decode b_X_close 44 = .ok (.aload_n 0, 1) := by decide +kernel
theorem d_X_close_45 : decode b_X_close 45 = .ok (.dup, 1) := by decide +kernel
theorem d_X_close_46 : decode b_X_close 46 = .ok (.getfield 19, 3) := by decide +kernel
theorem d_X_close_49 : decode b_X_close 49 = .ok (.iconst 1, 1) := by decide +kernel
theorem d_X_close_50 : decode b_X_close 50 = .ok (.isub, 1) := by decide +kernel
theorem d_X_close_51 : decode b_X_close 51 = .ok (.putfield 19, 3) := by decide +kernel
theorem d_X_close_54 : decode b_X_close 54 = .ok (.aload_n 0, 1) := by decide +kernel
theorem d_X_close_55 : decode b_X_close 55 = .ok (.getfield 19, 3) := by decide +kernel
theorem d_X_close_58 : decode b_X_close 58 = .ok (.ireturn, 1) := by decide +kernel
theorem d_X_load_0 : decode b_X_load 0 = .ok (.iload_n 1, 1) := by decide +kernel
theorem d_X_load_1 : decode b_X_load 1 = .ok (.iload_n 2, 1) := by decide +kernel
theorem d_X_load_2 : decode b_X_load 2 = .ok (.invokestatic 56, 3) := by decide +kernel
theorem d_X_load_5 : decode b_X_load 5 = .ok (.aload_n 0, 1) := by decide +kernel
theorem d_X_load_6 : decode b_X_load 6 = .ok (.getfield 15, 3) := by decide +kernel
theorem d_X_load_9 : decode b_X_load 9 = .ok (.aload_n 0, 1) := by decide +kernel
theorem d_X_load_10 : decode b_X_load 10 = .ok (.getfield 19, 3) := by decide +kernel
theorem d_X_load_13 : decode b_X_load 13 = .ok (.aaload, 1) := by decide +kernel
theorem d_X_load_14 : decode b_X_load 14 = .ok (.astore_n 3, 1) := by decide +kernel
theorem d_X_load_15 : decode b_X_load 15 = .ok (.aload_n 3, 1) := by decide +kernel
theorem d_X_load_16 : decode b_X_load 16 = .ok (.iload_n 1, 1) := by decide +kernel
theorem d_X_load_17 : decode b_X_load 17 = .ok (.iload_n 2, 1) := by decide +kernel
theorem d_X_load_18 : decode b_X_load 18 = .ok (.invokevirtual 60, 3) := by decide +kernel
theorem d_X_load_21 : decode b_X_load 21 = .ok (.ifCond .eq 8, 3) := by decide +kernel
theorem d_X_load_24 : decode b_X_load 24 = .ok (.bipush 100, 2) := by decide +kernel
theorem d_X_load_26 : decode b_X_load 26 = .ok (.goto 6, 3) := by decide +kernel
theorem d_X_load_29 : decode b_X_load 29 = .ok (.sipush 2100, 3) := by decide +kernel
theorem d_X_load_32 : decode b_X_load 32 = .ok (.istore 4, 2) := by decide +kernel
theorem d_X_load_34 : decode b_X_load 34 = .ok (.aload_n 3, 1) := by decide +kernel
theorem d_X_load_35 : decode b_X_load 35 = .ok (.iload_n 1, 1) := by decide +kernel
theorem d_X_load_36 : decode b_X_load 36 = .ok (.iload_n 2, 1) := by decide +kernel
theorem d_X_load_37 : decode b_X_load 37 = .ok (.invokevirtual 64, 3) := by decide +kernel
theorem d_X_load_40 : decode b_X_load 40 = .ok (.iload 4, 2) := by decide +kernel
theorem d_X_load_42 : decode b_X_load 42 = .ok (.ireturn, 1) := by decide +kernel
theorem d_X_checkPlace_0 : decode b_X_checkPlace 0 = .ok (.iload_n 0, 1) := by decide +kernel
theorem d_X_checkPlace_1 : decode b_X_checkPlace 1 = .ok (.ifCond .lt 18, 3) := by decide +kernel
theorem d_X_checkPlace_4 : decode b_X_checkPlace 4 = .ok (.iload_n 0, 1) := by decide +kernel
theorem d_X_checkPlace_5 : decode b_X_checkPlace 5 = .ok (.iconst 4, 1) := by decide +kernel
theorem d_X_checkPlace_6 : decode b_X_checkPlace 6 = .ok (.if_icmp .ge 13, 3) := by decide +kernel
theorem d_X_checkPlace_9 : decode b_X_checkPlace 9 = .ok (.iload_n 1, 1) := by decide +kernel
theorem d_X_checkPlace_10 : decode b_X_checkPlace 10 = .ok (.ifCond .lt 9, 3) := by decide +kernel
theorem d_X_checkPlace_13 : decode b_X_checkPlace 13 = .ok (.iload_n 1, 1) := by decide +kernel
theorem d_X_checkPlace_14 : decode b_X_checkPlace 14 = .ok (.bipush 64, 2) := by decide +kernel
theorem d_X_checkPlace_16 : decode b_X_checkPlace 16 = .ok (.if_icmp .lt 13, 3) := by decide +kernel
theorem d_X_checkPlace_19 : decode b_X_checkPlace 19 = .ok (.new 86, 3) := by decide +kernel
theorem d_X_checkPlace_22 : decode b_X_checkPlace 22 = .ok (.dup, 1) := by decide +kernel
theorem d_X_checkPlace_23 : decode b_X_checkPlace 23 = .ok (.ldc 91, 2) := by decide +kernel
theorem d_X_checkPlace_25 : decode b_X_checkPlace 25 = .ok (.invokespecial 90, 3) := by decide +kernel
theorem d_X_checkPlace_28 : decode b_X_checkPlace 28 = .ok (.athrow, 1) := by decide +kernel
theorem d_X_checkPlace_29 : decode b_X_checkPlace 29 = .ok (.return_, 1) := by decide +kernel
theorem d_S_isMarked_0 : decode b_S_isMarked 0 = .ok (.aload_n 0, 1) := by decide +kernel
theorem d_S_isMarked_1 : decode b_S_isMarked 1 = .ok (.getfield 15, 3) := by decide +kernel
theorem d_S_isMarked_4 : decode b_S_isMarked 4 = .ok (.iload_n 1, 1) := by decide +kernel
theorem d_S_isMarked_5 : decode b_S_isMarked 5 = .ok (.laload, 1) := by decide +kernel
theorem d_S_isMarked_6 : decode b_S_isMarked 6 = .ok (.iload_n 2, 1) := by decide +kernel
theorem d_S_isMarked_7 : decode b_S_isMarked 7 = .ok (.lushr, 1) := by decide +kernel
theorem d_S_isMarked_8 : decode b_S_isMarked 8 = .ok (.lconst 1, 1) := by decide +kernel
theorem d_S_isMarked_9 : decode b_S_isMarked 9 = .ok (.land, 1) := by decide +kernel
theorem d_S_isMarked_10 : decode b_S_isMarked 10 = .ok (.lconst 0, 1) := by decide +kernel
theorem d_S_isMarked_11 : decode b_S_isMarked 11 = .ok (.lcmp, 1) := by decide +kernel
theorem d_S_isMarked_12 : decode b_S_isMarked 12 = .ok (.ifCond .eq 7, 3) := by decide +kernel
theorem d_S_isMarked_15 : decode b_S_isMarked 15 = .ok (.iconst 1, 1) := by decide +kernel
theorem d_S_isMarked_16 : decode b_S_isMarked 16 = .ok (.goto 4, 3) := by decide +kernel
theorem d_S_isMarked_19 : decode b_S_isMarked 19 = .ok (.iconst 0, 1) := by decide +kernel
theorem d_S_isMarked_20 : decode b_S_isMarked 20 = .ok (.ireturn, 1) := by decide +kernel
theorem d_S_mark_0 : decode b_S_mark 0 = .ok (.aload_n 0, 1) := by decide +kernel
theorem d_S_mark_1 : decode b_S_mark 1 = .ok (.getfield 15, 3) := by decide +kernel
theorem d_S_mark_4 : decode b_S_mark 4 = .ok (.iload_n 1, 1) := by decide +kernel
theorem d_S_mark_5 : decode b_S_mark 5 = .ok (.dup2, 1) := by decide +kernel
theorem d_S_mark_6 : decode b_S_mark 6 = .ok (.laload, 1) := by decide +kernel
theorem d_S_mark_7 : decode b_S_mark 7 = .ok (.lconst 1, 1) := by decide +kernel
theorem d_S_mark_8 : decode b_S_mark 8 = .ok (.iload_n 2, 1) := by decide +kernel
theorem d_S_mark_9 : decode b_S_mark 9 = .ok (.lshl, 1) := by decide +kernel
theorem d_S_mark_10 : decode b_S_mark 10 = .ok (.lor, 1) := by decide +kernel
theorem d_S_mark_11 : decode b_S_mark 11 = .ok (.lastore, 1) := by decide +kernel
theorem d_S_mark_12 : decode b_S_mark 12 = .ok (.return_, 1) := by decide +kernel
theorem d_X_store_0 : decode b_X_store 0 = .ok (.iload_n 1, 1) := by decide +kernel
theorem d_X_store_1 : decode b_X_store 1 = .ok (.iload_n 2, 1) := by decide +kernel
theorem d_X_store_2 : decode b_X_store 2 = .ok (.invokestatic 56, 3) := by decide +kernel
theorem d_X_store_5 : decode b_X_store 5 = .ok (.aload_n 0, 1) := by decide +kernel
theorem d_X_store_6 : decode b_X_store 6 = .ok (.getfield 15, 3) := by decide +kernel
theorem d_X_store_9 : decode b_X_store 9 = .ok (.aload_n 0, 1) := by decide +kernel
theorem d_X_store_10 : decode b_X_store 10 = .ok (.getfield 19, 3) := by decide +kernel
theorem d_X_store_13 : decode b_X_store 13 = .ok (.aaload, 1) := by decide +kernel
theorem d_X_store_14 : decode b_X_store 14 = .ok (.astore 6, 2) := by decide +kernel
theorem d_X_store_16 : decode b_X_store 16 = .ok (.iload_n 1, 1) := by decide +kernel
theorem d_X_store_17 : decode b_X_store 17 = .ok (.iload_n 2, 1) := by decide +kernel
theorem d_X_store_18 : decode b_X_store 18 = .ok (.invokestatic 67, 3) := by decide +kernel
theorem d_X_store_21 : decode b_X_store 21 = .ok (.istore 7, 2) := by decide +kernel
theorem d_X_store_23 : decode b_X_store 23 = .ok (.aload_n 0, 1) := by decide +kernel
theorem d_X_store_24 : decode b_X_store 24 = .ok (.getfield 9, 3) := by decide +kernel
theorem d_X_store_27 : decode b_X_store 27 = .ok (.iload 7, 2) := by decide +kernel
theorem d_X_store_29 : decode b_X_store 29 = .ok (.laload, 1) := by decide +kernel
theorem d_X_store_30 : decode b_X_store 30 = .ok (.lstore 8, 2) := by decide +kernel
theorem d_X_store_32 : decode b_X_store 32 = .ok (.aload 6, 2) := by decide +kernel
theorem d_X_store_34 : decode b_X_store 34 = .ok (.getfield 31, 3) := by decide +kernel
theorem d_X_store_37 : decode b_X_store 37 = .ok (.iload 7, 2) := by decide +kernel
theorem d_X_store_39 : decode b_X_store 39 = .ok (.laload, 1) := by decide +kernel
theorem d_X_store_40 : decode b_X_store 40 = .ok (.lstore 10, 2) := by decide +kernel
theorem d_X_store_42 : decode b_X_store 42 = .ok (.lload 8, 2) := by decide +kernel
theorem d_X_store_44 : decode b_X_store 44 = .ok (.lload 10, 2) := by decide +kernel
theorem d_X_store_46 : decode b_X_store 46 = .ok (.lload_n 3, 1) := by decide +kernel
theorem d_X_store_47 : decode b_X_store 47 = .ok (.invokestatic 71, 3) := by decide +kernel
theorem d_X_store_50 : decode b_X_store 50 = .ok (.istore 12, 2) := by decide +kernel
theorem d_X_store_52 : decode b_X_store 52 = .ok (.aload 6, 2) := by decide +kernel
theorem d_X_store_54 : decode b_X_store 54 = .ok (.iload_n 1, 1) := by decide +kernel
theorem d_X_store_55 : decode b_X_store 55 = .ok (.iload_n 2, 1) := by decide +kernel
theorem d_X_store_56 : decode b_X_store 56 = .ok (.invokevirtual 60, 3) := by decide +kernel
theorem d_X_store_59 : decode b_X_store 59 = .ok (.ifCond .ne 9, 3) := by decide +kernel
theorem d_X_store_62 : decode b_X_store 62 = .ok (.iinc 12 2100, 6) := by decide +kernel
theorem d_X_store_68 : decode b_X_store 68 = .ok (.iload 5, 2) := by decide +kernel
theorem d_X_store_70 : decode b_X_store 70 = .ok (.sipush 2300, 3) := by decide +kernel
theorem d_X_store_73 : decode b_X_store 73 = .ok (.if_icmp .le 10, 3) := by decide +kernel
theorem d_X_store_76 : decode b_X_store 76 = .ok (.iload 12, 2) := by decide +kernel
theorem d_X_store_78 : decode b_X_store 78 = .ok (.iload 5, 2) := by decide +kernel
theorem d_X_store_80 : decode b_X_store 80 = .ok (.if_icmp .le 13, 3) := by decide +kernel
theorem d_X_store_83 : decode b_X_store 83 = .ok (.new 51, 3) := by decide +kernel
theorem d_X_store_86 : decode b_X_store 86 = .ok (.dup, 1) := by decide +kernel
theorem d_X_store_87 : decode b_X_store 87 = .ok (.ldc 75, 2) := by decide +kernel
theorem d_X_store_89 : decode b_X_store 89 = .ok (.invokespecial 55, 3) := by decide +kernel
theorem d_X_store_92 : decode b_X_store 92 = .ok (.athrow, 1) := by decide +kernel
theorem d_X_store_93 : decode b_X_store 93 = .ok (.aload 6, 2) := by decide +kernel
theorem d_X_store_95 : decode b_X_store 95 = .ok (.iload_n 1, 1) := by decide +kernel
theorem d_X_store_96 : decode b_X_store 96 = .ok (.iload_n 2, 1) := by decide +kernel
theorem d_X_store_97 : decode b_X_store 97 = .ok (.invokevirtual 64, 3) := by decide +kernel
theorem d_X_store_100 : decode b_X_store 100 = .ok (.aload 6, 2) := by decide +kernel
theorem d_X_store_102 : decode b_X_store 102 = .ok (.dup, 1) := by decide +kernel
theorem d_X_store_103 : decode b_X_store 103 = .ok (.getfield 77, 3) := by decide +kernel
theorem d_X_store_106 : decode b_X_store 106 = .ok (.lload 8, 2) := by decide +kernel
theorem d_X_store_108 : decode b_X_store 108 = .ok (.lload 10, 2) := by decide +kernel
theorem d_X_store_110 : decode b_X_store 110 = .ok (.lload_n 3, 1) := by decide +kernel
theorem d_X_store_111 : decode b_X_store 111 = .ok (.invokestatic 80, 3) := by decide +kernel
theorem d_X_store_114 : decode b_X_store 114 = .ok (.iadd, 1) := by decide +kernel
theorem d_X_store_115 : decode b_X_store 115 = .ok (.putfield 77, 3) := by decide +kernel
theorem d_X_store_118 : decode b_X_store 118 = .ok (.aload 6, 2) := by decide +kernel
theorem d_X_store_120 : decode b_X_store 120 = .ok (.getfield 31, 3) := by decide +kernel
theorem d_X_store_123 : decode b_X_store 123 = .ok (.iload 7, 2) := by decide +kernel
theorem d_X_store_125 : decode b_X_store 125 = .ok (.lload_n 3, 1) := by decide +kernel
theorem d_X_store_126 : decode b_X_store 126 = .ok (.lastore, 1) := by decide +kernel
theorem d_X_store_127 : decode b_X_store 127 = .ok (.iload 12, 2) := by decide +kernel
theorem d_X_store_129 : decode b_X_store 129 = .ok (.ireturn, 1) := by decide +kernel
theorem d_X_cellOf_0 : decode b_X_cellOf 0 = .ok (.iload_n 0, 1) := by decide +kernel
theorem d_X_cellOf_1 : decode b_X_cellOf 1 = .ok (.bipush 64, 2) := by decide +kernel
theorem d_X_cellOf_3 : decode b_X_cellOf 3 = .ok (.imul, 1) := by decide +kernel
theorem d_X_cellOf_4 : decode b_X_cellOf 4 = .ok (.iload_n 1, 1) := by decide +kernel
theorem d_X_cellOf_5 : decode b_X_cellOf 5 = .ok (.iadd, 1) := by decide +kernel
theorem d_X_cellOf_6 : decode b_X_cellOf 6 = .ok (.ireturn, 1) := by decide +kernel
theorem d_X_writeCost_0 : decode b_X_writeCost 0 = .ok (.lload 4, 2) := by decide +kernel
theorem d_X_writeCost_2 : decode b_X_writeCost 2 = .ok (.lload_n 2, 1) := by decide +kernel
theorem d_X_writeCost_3 : decode b_X_writeCost 3 = .ok (.lcmp, 1) := by decide +kernel
theorem d_X_writeCost_4 : decode b_X_writeCost 4 = .ok (.ifCond .eq 9, 3) := by decide +kernel
theorem d_X_writeCost_7 : decode b_X_writeCost 7 = .ok (.lload_n 0, 1) := by decide +kernel
theorem d_X_writeCost_8 : decode b_X_writeCost 8 = .ok (.lload_n 2, 1) := by decide +kernel
theorem d_X_writeCost_9 : decode b_X_writeCost 9 = .ok (.lcmp, 1) := by decide +kernel
theorem d_X_writeCost_10 : decode b_X_writeCost 10 = .ok (.ifCond .eq 6, 3) := by decide +kernel
theorem d_X_writeCost_13 : decode b_X_writeCost 13 = .ok (.bipush 100, 2) := by decide +kernel
theorem d_X_writeCost_15 : decode b_X_writeCost 15 = .ok (.ireturn, 1) := by decide +kernel
theorem d_X_writeCost_16 : decode b_X_writeCost 16 = .ok (.lload_n 0, 1) := by decide +kernel
theorem d_X_writeCost_17 : decode b_X_writeCost 17 = .ok (.lconst 0, 1) := by decide +kernel
theorem d_X_writeCost_18 : decode b_X_writeCost 18 = .ok (.lcmp, 1) := by decide +kernel
theorem d_X_writeCost_19 : decode b_X_writeCost 19 = .ok (.ifCond .ne 9, 3) := by decide +kernel
theorem d_X_writeCost_22 : decode b_X_writeCost 22 = .ok (.sipush 20000, 3) := by decide +kernel
theorem d_X_writeCost_25 : decode b_X_writeCost 25 = .ok (.goto 6, 3) := by decide +kernel
theorem d_X_writeCost_28 : decode b_X_writeCost 28 = .ok (.sipush 2900, 3) := by decide +kernel
theorem d_X_writeCost_31 : decode b_X_writeCost 31 = .ok (.ireturn, 1) := by decide +kernel
theorem d_X_refundChange_0 : decode b_X_refundChange 0 = .ok (.lload 4, 2) := by decide +kernel
theorem d_X_refundChange_2 : decode b_X_refundChange 2 = .ok (.lload_n 2, 1) := by decide +kernel
theorem d_X_refundChange_3 : decode b_X_refundChange 3 = .ok (.lcmp, 1) := by decide +kernel
theorem d_X_refundChange_4 : decode b_X_refundChange 4 = .ok (.ifCond .ne 5, 3) := by decide +kernel
theorem d_X_refundChange_7 : decode b_X_refundChange 7 = .ok (.iconst 0, 1) := by decide +kernel
theorem d_X_refundChange_8 : decode b_X_refundChange 8 = .ok (.ireturn, 1) := by decide +kernel
theorem d_X_refundChange_9 : decode b_X_refundChange 9 = .ok (.lload_n 0, 1) := by decide +kernel
theorem d_X_refundChange_10 : decode b_X_refundChange 10 = .ok (.lload_n 2, 1) := by decide +kernel
theorem d_X_refundChange_11 : decode b_X_refundChange 11 = .ok (.lcmp, 1) := by decide +kernel
theorem d_X_refundChange_12 : decode b_X_refundChange 12 = .ok (.ifCond .ne 18, 3) := by decide +kernel
theorem d_X_refundChange_15 : decode b_X_refundChange 15 = .ok (.lload 4, 2) := by decide +kernel
theorem d_X_refundChange_17 : decode b_X_refundChange 17 = .ok (.lconst 0, 1) := by decide +kernel
theorem d_X_refundChange_18 : decode b_X_refundChange 18 = .ok (.lcmp, 1) := by decide +kernel
theorem d_X_refundChange_19 : decode b_X_refundChange 19 = .ok (.ifCond .ne 9, 3) := by decide +kernel
theorem d_X_refundChange_22 : decode b_X_refundChange 22 = .ok (.sipush 15000, 3) := by decide +kernel
theorem d_X_refundChange_25 : decode b_X_refundChange 25 = .ok (.goto 4, 3) := by decide +kernel
theorem d_X_refundChange_28 : decode b_X_refundChange 28 = .ok (.iconst 0, 1) := by decide +kernel
theorem d_X_refundChange_29 : decode b_X_refundChange 29 = .ok (.ireturn, 1) := by decide +kernel
theorem d_X_refundChange_30 : decode b_X_refundChange 30 = .ok (.lload_n 0, 1) := by decide +kernel
theorem d_X_refundChange_31 : decode b_X_refundChange 31 = .ok (.lload_n 2, 1) := by decide +kernel
theorem d_X_refundChange_32 : decode b_X_refundChange 32 = .ok (.lload 4, 2) := by decide +kernel
theorem d_X_refundChange_34 : decode b_X_refundChange 34 = .ok (.invokestatic 93, 3) := by decide +kernel
theorem d_X_refundChange_37 : decode b_X_refundChange 37 = .ok (.lload_n 0, 1) := by decide +kernel
theorem d_X_refundChange_38 : decode b_X_refundChange 38 = .ok (.lload 4, 2) := by decide +kernel
theorem d_X_refundChange_40 : decode b_X_refundChange 40 = .ok (.invokestatic 96, 3) := by decide +kernel
theorem d_X_refundChange_43 : decode b_X_refundChange 43 = .ok (.iadd, 1) := by decide +kernel
theorem d_X_refundChange_44 : decode b_X_refundChange 44 = .ok (.ireturn, 1) := by decide +kernel
theorem d_X_clearingChange_0 : decode b_X_clearingChange 0 = .ok (.lload_n 0, 1) := by decide +kernel
theorem d_X_clearingChange_1 : decode b_X_clearingChange 1 = .ok (.lconst 0, 1) := by decide +kernel
theorem d_X_clearingChange_2 : decode b_X_clearingChange 2 = .ok (.lcmp, 1) := by decide +kernel
theorem d_X_clearingChange_3 : decode b_X_clearingChange 3 = .ok (.ifCond .ne 5, 3) := by decide +kernel
theorem d_X_clearingChange_6 : decode b_X_clearingChange 6 = .ok (.iconst 0, 1) := by decide +kernel
theorem d_X_clearingChange_7 : decode b_X_clearingChange 7 = .ok (.ireturn, 1) := by decide +kernel
theorem d_X_clearingChange_8 : decode b_X_clearingChange 8 = .ok (.lload_n 2, 1) := by decide +kernel
theorem d_X_clearingChange_9 : decode b_X_clearingChange 9 = .ok (.lconst 0, 1) := by decide +kernel
theorem d_X_clearingChange_10 : decode b_X_clearingChange 10 = .ok (.lcmp, 1) := by decide +kernel
theorem d_X_clearingChange_11 : decode b_X_clearingChange 11 = .ok (.ifCond .ne 7, 3) := by decide +kernel
theorem d_X_clearingChange_14 : decode b_X_clearingChange 14 = .ok (.sipush (-15000), 3) := by decide +kernel
theorem d_X_clearingChange_17 : decode b_X_clearingChange 17 = .ok (.ireturn, 1) := by decide +kernel
theorem d_X_clearingChange_18 : decode b_X_clearingChange 18 = .ok (.lload 4, 2) := by decide +kernel
theorem d_X_clearingChange_20 : decode b_X_clearingChange 20 = .ok (.lconst 0, 1) := by decide +kernel
theorem d_X_clearingChange_21 : decode b_X_clearingChange 21 = .ok (.lcmp, 1) := by decide +kernel
theorem d_X_clearingChange_22 : decode b_X_clearingChange 22 = .ok (.ifCond .ne 9, 3) := by decide +kernel
theorem d_X_clearingChange_25 : decode b_X_clearingChange 25 = .ok (.sipush 15000, 3) := by decide +kernel
theorem d_X_clearingChange_28 : decode b_X_clearingChange 28 = .ok (.goto 4, 3) := by decide +kernel
theorem d_X_clearingChange_31 : decode b_X_clearingChange 31 = .ok (.iconst 0, 1) := by decide +kernel
theorem d_X_clearingChange_32 : decode b_X_clearingChange 32 = .ok (.ireturn, 1) := by decide +kernel
theorem d_X_restoringChange_0 : decode b_X_restoringChange 0 = .ok (.lload_n 0, 1) := by decide +kernel
theorem d_X_restoringChange_1 : decode b_X_restoringChange 1 = .ok (.lload_n 2, 1) := by decide +kernel
theorem d_X_restoringChange_2 : decode b_X_restoringChange 2 = .ok (.lcmp, 1) := by decide +kernel
theorem d_X_restoringChange_3 : decode b_X_restoringChange 3 = .ok (.ifCond .eq 5, 3) := by decide +kernel
theorem d_X_restoringChange_6 : decode b_X_restoringChange 6 = .ok (.iconst 0, 1) := by decide +kernel
theorem d_X_restoringChange_7 : decode b_X_restoringChange 7 = .ok (.ireturn, 1) := by decide +kernel
theorem d_X_restoringChange_8 : decode b_X_restoringChange 8 = .ok (.lload_n 0, 1) := by decide +kernel
theorem d_X_restoringChange_9 : decode b_X_restoringChange 9 = .ok (.lconst 0, 1) := by decide +kernel
theorem d_X_restoringChange_10 : decode b_X_restoringChange 10 = .ok (.lcmp, 1) := by decide +kernel
theorem d_X_restoringChange_11 : decode b_X_restoringChange 11 = .ok (.ifCond .ne 9, 3) := by decide +kernel
theorem d_X_restoringChange_14 : decode b_X_restoringChange 14 = .ok (.sipush 19900, 3) := by decide +kernel
theorem d_X_restoringChange_17 : decode b_X_restoringChange 17 = .ok (.goto 6, 3) := by decide +kernel
theorem d_X_restoringChange_20 : decode b_X_restoringChange 20 = .ok (.sipush 2800, 3) := by decide +kernel
theorem d_X_restoringChange_23 : decode b_X_restoringChange 23 = .ok (.ireturn, 1) := by decide +kernel
theorem d_X_held_0 : decode b_X_held 0 = .ok (.iload_n 1, 1) := by decide +kernel
theorem d_X_held_1 : decode b_X_held 1 = .ok (.iload_n 2, 1) := by decide +kernel
theorem d_X_held_2 : decode b_X_held 2 = .ok (.invokestatic 56, 3) := by decide +kernel
theorem d_X_held_5 : decode b_X_held 5 = .ok (.iload_n 1, 1) := by decide +kernel
theorem d_X_held_6 : decode b_X_held 6 = .ok (.iload_n 2, 1) := by decide +kernel
theorem d_X_held_7 : decode b_X_held 7 = .ok (.invokestatic 67, 3) := by decide +kernel
theorem d_X_held_10 : decode b_X_held 10 = .ok (.istore 4, 2) := by decide +kernel
theorem d_X_held_12 : decode b_X_held 12 = .ok (.iload_n 3, 1) := by decide +kernel
theorem d_X_held_13 : decode b_X_held 13 = .ok (.ifCond .eq 13, 3) := by decide +kernel
theorem d_X_held_16 : decode b_X_held 16 = .ok (.aload_n 0, 1) := by decide +kernel
theorem d_X_held_17 : decode b_X_held 17 = .ok (.getfield 9, 3) := by decide +kernel
theorem d_X_held_20 : decode b_X_held 20 = .ok (.iload 4, 2) := by decide +kernel
theorem d_X_held_22 : decode b_X_held 22 = .ok (.laload, 1) := by decide +kernel
theorem d_X_held_23 : decode b_X_held 23 = .ok (.goto 18, 3) := by decide +kernel
theorem d_X_held_26 : decode b_X_held 26 = .ok (.aload_n 0, 1) := by decide +kernel
theorem d_X_held_27 : decode b_X_held 27 = .ok (.getfield 15, 3) := by decide +kernel
theorem d_X_held_30 : decode b_X_held 30 = .ok (.aload_n 0, 1) := by decide +kernel
theorem d_X_held_31 : decode b_X_held 31 = .ok (.getfield 19, 3) := by decide +kernel
theorem d_X_held_34 : decode b_X_held 34 = .ok (.aaload, 1) := by decide +kernel
theorem d_X_held_35 : decode b_X_held 35 = .ok (.getfield 31, 3) := by decide +kernel
theorem d_X_held_38 : decode b_X_held 38 = .ok (.iload 4, 2) := by decide +kernel
theorem d_X_held_40 : decode b_X_held 40 = .ok (.laload, 1) := by decide +kernel
theorem d_X_held_41 : decode b_X_held 41 = .ok (.lreturn, 1) := by decide +kernel
theorem d_X_touched_0 : decode b_X_touched 0 = .ok (.iload_n 1, 1) := by decide +kernel
theorem d_X_touched_1 : decode b_X_touched 1 = .ok (.iload_n 2, 1) := by decide +kernel
theorem d_X_touched_2 : decode b_X_touched 2 = .ok (.invokestatic 56, 3) := by decide +kernel
theorem d_X_touched_5 : decode b_X_touched 5 = .ok (.aload_n 0, 1) := by decide +kernel
theorem d_X_touched_6 : decode b_X_touched 6 = .ok (.getfield 15, 3) := by decide +kernel
theorem d_X_touched_9 : decode b_X_touched 9 = .ok (.aload_n 0, 1) := by decide +kernel
theorem d_X_touched_10 : decode b_X_touched 10 = .ok (.getfield 19, 3) := by decide +kernel
theorem d_X_touched_13 : decode b_X_touched 13 = .ok (.aaload, 1) := by decide +kernel
theorem d_X_touched_14 : decode b_X_touched 14 = .ok (.iload_n 1, 1) := by decide +kernel
theorem d_X_touched_15 : decode b_X_touched 15 = .ok (.iload_n 2, 1) := by decide +kernel
theorem d_X_touched_16 : decode b_X_touched 16 = .ok (.invokevirtual 60, 3) := by decide +kernel
theorem d_X_touched_19 : decode b_X_touched 19 = .ok (.ireturn, 1) := by decide +kernel
theorem d_X_count_0 : decode b_X_count 0 = .ok (.aload_n 0, 1) := by decide +kernel
theorem d_X_count_1 : decode b_X_count 1 = .ok (.getfield 15, 3) := by decide +kernel
theorem d_X_count_4 : decode b_X_count 4 = .ok (.aload_n 0, 1) := by decide +kernel
theorem d_X_count_5 : decode b_X_count 5 = .ok (.getfield 19, 3) := by decide +kernel
theorem d_X_count_8 : decode b_X_count 8 = .ok (.aaload, 1) := by decide +kernel
theorem d_X_count_9 : decode b_X_count 9 = .ok (.astore_n 2, 1) := by decide +kernel
theorem d_X_count_10 : decode b_X_count 10 = .ok (.iload_n 1, 1) := by decide +kernel
theorem d_X_count_11 : decode b_X_count 11 = .ok (.tableswitch 49 0 3 #[29, 34, 39, 44], 29) := by decide +kernel
theorem d_X_count_40 : decode b_X_count 40 = .ok (.aload_n 2, 1) := by decide +kernel
theorem d_X_count_41 : decode b_X_count 41 = .ok (.getfield 77, 3) := by decide +kernel
theorem d_X_count_44 : decode b_X_count 44 = .ok (.ireturn, 1) := by decide +kernel
theorem d_X_count_45 : decode b_X_count 45 = .ok (.aload_n 2, 1) := by decide +kernel
theorem d_X_count_46 : decode b_X_count 46 = .ok (.invokevirtual 83, 3) := by decide +kernel
theorem d_X_count_49 : decode b_X_count 49 = .ok (.ireturn, 1) := by decide +kernel
theorem d_X_count_50 : decode b_X_count 50 = .ok (.aload_n 0, 1) := by decide +kernel
theorem d_X_count_51 : decode b_X_count 51 = .ok (.getfield 19, 3) := by decide +kernel
theorem d_X_count_54 : decode b_X_count 54 = .ok (.ireturn, 1) := by decide +kernel
theorem d_X_count_55 : decode b_X_count 55 = .ok (.aload_n 2, 1) := by decide +kernel
theorem d_X_count_56 : decode b_X_count 56 = .ok (.invokevirtual 40, 3) := by decide +kernel
theorem d_X_count_59 : decode b_X_count 59 = .ok (.ireturn, 1) := by decide +kernel
theorem d_X_count_60 : decode b_X_count 60 = .ok (.new 86, 3) := by decide +kernel
theorem d_X_count_63 : decode b_X_count 63 = .ok (.dup, 1) := by decide +kernel
theorem d_X_count_64 : decode b_X_count 64 = .ok (.ldc 88, 2) := by decide +kernel
theorem d_X_count_66 : decode b_X_count 66 = .ok (.invokespecial 90, 3) := by decide +kernel
theorem d_X_count_69 : decode b_X_count 69 = .ok (.athrow, 1) := by decide +kernel
theorem d_S_markedPlaces_0 : decode b_S_markedPlaces 0 = .ok (.iconst 0, 1) := by decide +kernel
theorem d_S_markedPlaces_1 : decode b_S_markedPlaces 1 = .ok (.istore_n 1, 1) := by decide +kernel
theorem d_S_markedPlaces_2 : decode b_S_markedPlaces 2 = .ok (.iconst 0, 1) := by decide +kernel
theorem d_S_markedPlaces_3 : decode b_S_markedPlaces 3 = .ok (.istore_n 2, 1) := by decide +kernel
theorem d_S_markedPlaces_4 : decode b_S_markedPlaces 4 = .ok (.iload_n 2, 1) := by decide +kernel
theorem d_S_markedPlaces_5 : decode b_S_markedPlaces 5 = .ok (.iconst 4, 1) := by decide +kernel
theorem d_S_markedPlaces_6 : decode b_S_markedPlaces 6 = .ok (.if_icmp .ge 21, 3) := by decide +kernel
theorem d_S_markedPlaces_9 : decode b_S_markedPlaces 9 = .ok (.iload_n 1, 1) := by decide +kernel
theorem d_S_markedPlaces_10 : decode b_S_markedPlaces 10 = .ok (.aload_n 0, 1) := by decide +kernel
theorem d_S_markedPlaces_11 : decode b_S_markedPlaces 11 = .ok (.getfield 15, 3) := by decide +kernel
theorem d_S_markedPlaces_14 : decode b_S_markedPlaces 14 = .ok (.iload_n 2, 1) := by decide +kernel
theorem d_S_markedPlaces_15 : decode b_S_markedPlaces 15 = .ok (.laload, 1) := by decide +kernel
theorem d_S_markedPlaces_16 : decode b_S_markedPlaces 16 = .ok (.invokestatic 28, 3) := by decide +kernel
theorem d_S_markedPlaces_19 : decode b_S_markedPlaces 19 = .ok (.iadd, 1) := by decide +kernel
theorem d_S_markedPlaces_20 : decode b_S_markedPlaces 20 = .ok (.istore_n 1, 1) := by decide +kernel
theorem d_S_markedPlaces_21 : decode b_S_markedPlaces 21 = .ok (.iinc 2 1, 3) := by decide +kernel
theorem d_S_markedPlaces_24 : decode b_S_markedPlaces 24 = .ok (.goto (-20), 3) := by decide +kernel
theorem d_S_markedPlaces_27 : decode b_S_markedPlaces 27 = .ok (.iload_n 1, 1) := by decide +kernel
theorem d_S_markedPlaces_28 : decode b_S_markedPlaces 28 = .ok (.ireturn, 1) := by decide +kernel
theorem d_J_bitCount_0 : decode b_J_bitCount 0 = .ok (.lload_n 0, 1) := by decide +kernel
theorem d_J_bitCount_1 : decode b_J_bitCount 1 = .ok (.lload_n 0, 1) := by decide +kernel
theorem d_J_bitCount_2 : decode b_J_bitCount 2 = .ok (.iconst 1, 1) := by decide +kernel
theorem d_J_bitCount_3 : decode b_J_bitCount 3 = .ok (.lushr, 1) := by decide +kernel
theorem d_J_bitCount_4 : decode b_J_bitCount 4 = .ok (.ldc2_w 314, 3) := by decide +kernel
theorem d_J_bitCount_7 : decode b_J_bitCount 7 = .ok (.land, 1) := by decide +kernel
theorem d_J_bitCount_8 : decode b_J_bitCount 8 = .ok (.lsub, 1) := by decide +kernel
theorem d_J_bitCount_9 : decode b_J_bitCount 9 = .ok (.lstore_n 0, 1) := by decide +kernel
theorem d_J_bitCount_10 : decode b_J_bitCount 10 = .ok (.lload_n 0, 1) := by decide +kernel
theorem d_J_bitCount_11 : decode b_J_bitCount 11 = .ok (.ldc2_w 316, 3) := by decide +kernel
theorem d_J_bitCount_14 : decode b_J_bitCount 14 = .ok (.land, 1) := by decide +kernel
theorem d_J_bitCount_15 : decode b_J_bitCount 15 = .ok (.lload_n 0, 1) := by decide +kernel
theorem d_J_bitCount_16 : decode b_J_bitCount 16 = .ok (.iconst 2, 1) := by decide +kernel
theorem d_J_bitCount_17 : decode b_J_bitCount 17 = .ok (.lushr, 1) := by decide +kernel
theorem d_J_bitCount_18 : decode b_J_bitCount 18 = .ok (.ldc2_w 316, 3) := by decide +kernel
theorem d_J_bitCount_21 : decode b_J_bitCount 21 = .ok (.land, 1) := by decide +kernel
theorem d_J_bitCount_22 : decode b_J_bitCount 22 = .ok (.ladd, 1) := by decide +kernel
theorem d_J_bitCount_23 : decode b_J_bitCount 23 = .ok (.lstore_n 0, 1) := by decide +kernel
theorem d_J_bitCount_24 : decode b_J_bitCount 24 = .ok (.lload_n 0, 1) := by decide +kernel
theorem d_J_bitCount_25 : decode b_J_bitCount 25 = .ok (.lload_n 0, 1) := by decide +kernel
theorem d_J_bitCount_26 : decode b_J_bitCount 26 = .ok (.iconst 4, 1) := by decide +kernel
theorem d_J_bitCount_27 : decode b_J_bitCount 27 = .ok (.lushr, 1) := by decide +kernel
theorem d_J_bitCount_28 : decode b_J_bitCount 28 = .ok (.ladd, 1) := by decide +kernel
theorem d_J_bitCount_29 : decode b_J_bitCount 29 = .ok (.ldc2_w 318, 3) := by decide +kernel
theorem d_J_bitCount_32 : decode b_J_bitCount 32 = .ok (.land, 1) := by decide +kernel
theorem d_J_bitCount_33 : decode b_J_bitCount 33 = .ok (.lstore_n 0, 1) := by decide +kernel
theorem d_J_bitCount_34 : decode b_J_bitCount 34 = .ok (.lload_n 0, 1) := by decide +kernel
theorem d_J_bitCount_35 : decode b_J_bitCount 35 = .ok (.lload_n 0, 1) := by decide +kernel
theorem d_J_bitCount_36 : decode b_J_bitCount 36 = .ok (.bipush 8, 2) := by decide +kernel
theorem d_J_bitCount_38 : decode b_J_bitCount 38 = .ok (.lushr, 1) := by decide +kernel
theorem d_J_bitCount_39 : decode b_J_bitCount 39 = .ok (.ladd, 1) := by decide +kernel
theorem d_J_bitCount_40 : decode b_J_bitCount 40 = .ok (.lstore_n 0, 1) := by decide +kernel
theorem d_J_bitCount_41 : decode b_J_bitCount 41 = .ok (.lload_n 0, 1) := by decide +kernel
theorem d_J_bitCount_42 : decode b_J_bitCount 42 = .ok (.lload_n 0, 1) := by decide +kernel
theorem d_J_bitCount_43 : decode b_J_bitCount 43 = .ok (.bipush 16, 2) := by decide +kernel
theorem d_J_bitCount_45 : decode b_J_bitCount 45 = .ok (.lushr, 1) := by decide +kernel
theorem d_J_bitCount_46 : decode b_J_bitCount 46 = .ok (.ladd, 1) := by decide +kernel
theorem d_J_bitCount_47 : decode b_J_bitCount 47 = .ok (.lstore_n 0, 1) := by decide +kernel
theorem d_J_bitCount_48 : decode b_J_bitCount 48 = .ok (.lload_n 0, 1) := by decide +kernel
theorem d_J_bitCount_49 : decode b_J_bitCount 49 = .ok (.lload_n 0, 1) := by decide +kernel
theorem d_J_bitCount_50 : decode b_J_bitCount 50 = .ok (.bipush 32, 2) := by decide +kernel
theorem d_J_bitCount_52 : decode b_J_bitCount 52 = .ok (.lushr, 1) := by decide +kernel
theorem d_J_bitCount_53 : decode b_J_bitCount 53 = .ok (.ladd, 1) := by decide +kernel
theorem d_J_bitCount_54 : decode b_J_bitCount 54 = .ok (.lstore_n 0, 1) := by decide +kernel
theorem d_J_bitCount_55 : decode b_J_bitCount 55 = .ok (.lload_n 0, 1) := by decide +kernel
theorem d_J_bitCount_56 : decode b_J_bitCount 56 = .ok (.l2i, 1) := by decide +kernel
theorem d_J_bitCount_57 : decode b_J_bitCount 57 = .ok (.bipush 127, 2) := by decide +kernel
theorem d_J_bitCount_59 : decode b_J_bitCount 59 = .ok (.iand, 1) := by decide +kernel
theorem d_J_bitCount_60 : decode b_J_bitCount 60 = .ok (.ireturn, 1) := by decide +kernel
