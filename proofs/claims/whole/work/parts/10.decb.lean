/-! decode rows (by program: gen_dec.py) -/
theorem d_Ta_init_0 : decode prog_1_method_1_code 0 = .ok (.aload_n 0, 1) := by decide +kernel
theorem d_Ta_init_1 : decode prog_1_method_1_code 1 = .ok (.invokespecial 1, 3) := by decide +kernel
theorem d_Ta_init_4 : decode prog_1_method_1_code 4 = .ok (.aload_n 0, 1) := by decide +kernel
theorem d_Ta_init_5 : decode prog_1_method_1_code 5 = .ok (.new 7, 3) := by decide +kernel
theorem d_Ta_init_8 : decode prog_1_method_1_code 8 = .ok (.dup, 1) := by decide +kernel
theorem d_Ta_init_9 : decode prog_1_method_1_code 9 = .ok (.invokespecial 9, 3) := by decide +kernel
theorem d_Ta_init_12 : decode prog_1_method_1_code 12 = .ok (.putfield 10, 3) := by decide +kernel
theorem d_Ta_init_15 : decode prog_1_method_1_code 15 = .ok (.aload_n 0, 1) := by decide +kernel
theorem d_Ta_init_16 : decode prog_1_method_1_code 16 = .ok (.new 7, 3) := by decide +kernel
theorem d_Ta_init_19 : decode prog_1_method_1_code 19 = .ok (.dup, 1) := by decide +kernel
theorem d_Ta_init_20 : decode prog_1_method_1_code 20 = .ok (.invokespecial 9, 3) := by decide +kernel
theorem d_Ta_init_23 : decode prog_1_method_1_code 23 = .ok (.putfield 16, 3) := by decide +kernel
theorem d_Ta_init_26 : decode prog_1_method_1_code 26 = .ok (.aload_n 0, 1) := by decide +kernel
theorem d_Ta_init_27 : decode prog_1_method_1_code 27 = .ok (.new 19, 3) := by decide +kernel
theorem d_Ta_init_30 : decode prog_1_method_1_code 30 = .ok (.dup, 1) := by decide +kernel
theorem d_Ta_init_31 : decode prog_1_method_1_code 31 = .ok (.invokespecial 21, 3) := by decide +kernel
theorem d_Ta_init_34 : decode prog_1_method_1_code 34 = .ok (.putfield 22, 3) := by decide +kernel
theorem d_Ta_init_37 : decode prog_1_method_1_code 37 = .ok (.aload_n 0, 1) := by decide +kernel
theorem d_Ta_init_38 : decode prog_1_method_1_code 38 = .ok (.new 26, 3) := by decide +kernel
theorem d_Ta_init_41 : decode prog_1_method_1_code 41 = .ok (.dup, 1) := by decide +kernel
theorem d_Ta_init_42 : decode prog_1_method_1_code 42 = .ok (.invokespecial 28, 3) := by decide +kernel
theorem d_Ta_init_45 : decode prog_1_method_1_code 45 = .ok (.putfield 29, 3) := by decide +kernel
theorem d_Ta_init_48 : decode prog_1_method_1_code 48 = .ok (.aload_n 0, 1) := by decide +kernel
theorem d_Ta_init_49 : decode prog_1_method_1_code 49 = .ok (.getfield 22, 3) := by decide +kernel
theorem d_Ta_init_52 : decode prog_1_method_1_code 52 = .ok (.aload_n 0, 1) := by decide +kernel
theorem d_Ta_init_53 : decode prog_1_method_1_code 53 = .ok (.getfield 10, 3) := by decide +kernel
theorem d_Ta_init_56 : decode prog_1_method_1_code 56 = .ok (.invokevirtual 33, 3) := by decide +kernel
theorem d_Ta_init_59 : decode prog_1_method_1_code 59 = .ok (.return_, 1) := by decide +kernel
theorem d_Ta_create_0 : decode prog_1_method_2_code 0 = .ok (.iload_n 1, 1) := by decide +kernel
theorem d_Ta_create_1 : decode prog_1_method_2_code 1 = .ok (.iload_n 2, 1) := by decide +kernel
theorem d_Ta_create_2 : decode prog_1_method_2_code 2 = .ok (.invokestatic 37, 3) := by decide +kernel
theorem d_Ta_create_5 : decode prog_1_method_2_code 5 = .ok (.ifCond .ne 11, 3) := by decide +kernel
theorem d_Ta_create_8 : decode prog_1_method_2_code 8 = .ok (.new 41, 3) := by decide +kernel
theorem d_Ta_create_11 : decode prog_1_method_2_code 11 = .ok (.dup, 1) := by decide +kernel
theorem d_Ta_create_12 : decode prog_1_method_2_code 12 = .ok (.invokespecial 43, 3) := by decide +kernel
theorem d_Ta_create_15 : decode prog_1_method_2_code 15 = .ok (.athrow, 1) := by decide +kernel
theorem d_Ta_create_16 : decode prog_1_method_2_code 16 = .ok (.aload_n 0, 1) := by decide +kernel
theorem d_Ta_create_17 : decode prog_1_method_2_code 17 = .ok (.getfield 10, 3) := by decide +kernel
theorem d_Ta_create_20 : decode prog_1_method_2_code 20 = .ok (.invokevirtual 44, 3) := by decide +kernel
theorem d_Ta_create_23 : decode prog_1_method_2_code 23 = .ok (.iconst (-1), 1) := by decide +kernel
theorem d_Ta_create_24 : decode prog_1_method_2_code 24 = .ok (.if_icmp .ne 11, 3) := by decide +kernel
theorem d_Ta_create_27 : decode prog_1_method_2_code 27 = .ok (.new 48, 3) := by decide +kernel
theorem d_Ta_create_30 : decode prog_1_method_2_code 30 = .ok (.dup, 1) := by decide +kernel
theorem d_Ta_create_31 : decode prog_1_method_2_code 31 = .ok (.invokespecial 50, 3) := by decide +kernel
theorem d_Ta_create_34 : decode prog_1_method_2_code 34 = .ok (.athrow, 1) := by decide +kernel
theorem d_Ta_create_35 : decode prog_1_method_2_code 35 = .ok (.aload_n 0, 1) := by decide +kernel
theorem d_Ta_create_36 : decode prog_1_method_2_code 36 = .ok (.iconst 5, 1) := by decide +kernel
theorem d_Ta_create_37 : decode prog_1_method_2_code 37 = .ok (.invokevirtual 51, 3) := by decide +kernel
theorem d_Ta_create_40 : decode prog_1_method_2_code 40 = .ok (.aload_n 0, 1) := by decide +kernel
theorem d_Ta_create_41 : decode prog_1_method_2_code 41 = .ok (.getfield 29, 3) := by decide +kernel
theorem d_Ta_create_44 : decode prog_1_method_2_code 44 = .ok (.iload_n 1, 1) := by decide +kernel
theorem d_Ta_create_45 : decode prog_1_method_2_code 45 = .ok (.iload_n 2, 1) := by decide +kernel
theorem d_Ta_create_46 : decode prog_1_method_2_code 46 = .ok (.invokevirtual 55, 3) := by decide +kernel
theorem d_Ta_create_49 : decode prog_1_method_2_code 49 = .ok (.aload_n 0, 1) := by decide +kernel
theorem d_Ta_create_50 : decode prog_1_method_2_code 50 = .ok (.getfield 10, 3) := by decide +kernel
theorem d_Ta_create_53 : decode prog_1_method_2_code 53 = .ok (.iload_n 1, 1) := by decide +kernel
theorem d_Ta_create_54 : decode prog_1_method_2_code 54 = .ok (.iload_n 2, 1) := by decide +kernel
theorem d_Ta_create_55 : decode prog_1_method_2_code 55 = .ok (.invokevirtual 59, 3) := by decide +kernel
theorem d_Ta_create_58 : decode prog_1_method_2_code 58 = .ok (.ireturn, 1) := by decide +kernel
theorem d_Ta_destroy_0 : decode prog_1_method_3_code 0 = .ok (.aload_n 0, 1) := by decide +kernel
theorem d_Ta_destroy_1 : decode prog_1_method_3_code 1 = .ok (.iload_n 1, 1) := by decide +kernel
theorem d_Ta_destroy_2 : decode prog_1_method_3_code 2 = .ok (.invokevirtual 63, 3) := by decide +kernel
theorem d_Ta_destroy_5 : decode prog_1_method_3_code 5 = .ok (.aload_n 0, 1) := by decide +kernel
theorem d_Ta_destroy_6 : decode prog_1_method_3_code 6 = .ok (.iconst 4, 1) := by decide +kernel
theorem d_Ta_destroy_7 : decode prog_1_method_3_code 7 = .ok (.invokevirtual 51, 3) := by decide +kernel
theorem d_Ta_destroy_10 : decode prog_1_method_3_code 10 = .ok (.aload_n 0, 1) := by decide +kernel
theorem d_Ta_destroy_11 : decode prog_1_method_3_code 11 = .ok (.getfield 29, 3) := by decide +kernel
theorem d_Ta_destroy_14 : decode prog_1_method_3_code 14 = .ok (.iload_n 1, 1) := by decide +kernel
theorem d_Ta_destroy_15 : decode prog_1_method_3_code 15 = .ok (.invokevirtual 66, 3) := by decide +kernel
theorem d_Ta_destroy_18 : decode prog_1_method_3_code 18 = .ok (.aload_n 0, 1) := by decide +kernel
theorem d_Ta_destroy_19 : decode prog_1_method_3_code 19 = .ok (.getfield 10, 3) := by decide +kernel
theorem d_Ta_destroy_22 : decode prog_1_method_3_code 22 = .ok (.iload_n 1, 1) := by decide +kernel
theorem d_Ta_destroy_23 : decode prog_1_method_3_code 23 = .ok (.invokestatic 69, 3) := by decide +kernel
theorem d_Ta_destroy_26 : decode prog_1_method_3_code 26 = .ok (.invokevirtual 73, 3) := by decide +kernel
theorem d_Ta_destroy_29 : decode prog_1_method_3_code 29 = .ok (.return_, 1) := by decide +kernel
theorem d_Ta_speed_0 : decode prog_1_method_4_code 0 = .ok (.aload_n 0, 1) := by decide +kernel
theorem d_Ta_speed_1 : decode prog_1_method_4_code 1 = .ok (.iload_n 1, 1) := by decide +kernel
theorem d_Ta_speed_2 : decode prog_1_method_4_code 2 = .ok (.invokevirtual 63, 3) := by decide +kernel
theorem d_Ta_speed_5 : decode prog_1_method_4_code 5 = .ok (.iload_n 2, 1) := by decide +kernel
theorem d_Ta_speed_6 : decode prog_1_method_4_code 6 = .ok (.iload_n 3, 1) := by decide +kernel
theorem d_Ta_speed_7 : decode prog_1_method_4_code 7 = .ok (.invokestatic 76, 3) := by decide +kernel
theorem d_Ta_speed_10 : decode prog_1_method_4_code 10 = .ok (.ifCond .ne 11, 3) := by decide +kernel
theorem d_Ta_speed_13 : decode prog_1_method_4_code 13 = .ok (.new 41, 3) := by decide +kernel
theorem d_Ta_speed_16 : decode prog_1_method_4_code 16 = .ok (.dup, 1) := by decide +kernel
theorem d_Ta_speed_17 : decode prog_1_method_4_code 17 = .ok (.invokespecial 43, 3) := by decide +kernel
theorem d_Ta_speed_20 : decode prog_1_method_4_code 20 = .ok (.athrow, 1) := by decide +kernel
theorem d_Ta_speed_21 : decode prog_1_method_4_code 21 = .ok (.aload_n 0, 1) := by decide +kernel
theorem d_Ta_speed_22 : decode prog_1_method_4_code 22 = .ok (.bipush 6, 2) := by decide +kernel
theorem d_Ta_speed_24 : decode prog_1_method_4_code 24 = .ok (.invokevirtual 51, 3) := by decide +kernel
theorem d_Ta_speed_27 : decode prog_1_method_4_code 27 = .ok (.aload_n 0, 1) := by decide +kernel
theorem d_Ta_speed_28 : decode prog_1_method_4_code 28 = .ok (.getfield 29, 3) := by decide +kernel
theorem d_Ta_speed_31 : decode prog_1_method_4_code 31 = .ok (.iload_n 1, 1) := by decide +kernel
theorem d_Ta_speed_32 : decode prog_1_method_4_code 32 = .ok (.iload_n 2, 1) := by decide +kernel
theorem d_Ta_speed_33 : decode prog_1_method_4_code 33 = .ok (.iload_n 3, 1) := by decide +kernel
theorem d_Ta_speed_34 : decode prog_1_method_4_code 34 = .ok (.invokevirtual 79, 3) := by decide +kernel
theorem d_Ta_speed_37 : decode prog_1_method_4_code 37 = .ok (.aload_n 0, 1) := by decide +kernel
theorem d_Ta_speed_38 : decode prog_1_method_4_code 38 = .ok (.getfield 10, 3) := by decide +kernel
theorem d_Ta_speed_41 : decode prog_1_method_4_code 41 = .ok (.iload_n 1, 1) := by decide +kernel
theorem d_Ta_speed_42 : decode prog_1_method_4_code 42 = .ok (.invokevirtual 83, 3) := by decide +kernel
theorem d_Ta_speed_45 : decode prog_1_method_4_code 45 = .ok (.iload_n 2, 1) := by decide +kernel
theorem d_Ta_speed_46 : decode prog_1_method_4_code 46 = .ok (.iload_n 3, 1) := by decide +kernel
theorem d_Ta_speed_47 : decode prog_1_method_4_code 47 = .ok (.invokevirtual 87, 3) := by decide +kernel
theorem d_Ta_speed_50 : decode prog_1_method_4_code 50 = .ok (.return_, 1) := by decide +kernel
theorem d_Ta_shape_0 : decode prog_1_method_5_code 0 = .ok (.aload_n 0, 1) := by decide +kernel
theorem d_Ta_shape_1 : decode prog_1_method_5_code 1 = .ok (.iload_n 1, 1) := by decide +kernel
theorem d_Ta_shape_2 : decode prog_1_method_5_code 2 = .ok (.invokevirtual 63, 3) := by decide +kernel
theorem d_Ta_shape_5 : decode prog_1_method_5_code 5 = .ok (.iload_n 2, 1) := by decide +kernel
theorem d_Ta_shape_6 : decode prog_1_method_5_code 6 = .ok (.iload_n 3, 1) := by decide +kernel
theorem d_Ta_shape_7 : decode prog_1_method_5_code 7 = .ok (.invokestatic 92, 3) := by decide +kernel
theorem d_Ta_shape_10 : decode prog_1_method_5_code 10 = .ok (.ifCond .ne 11, 3) := by decide +kernel
theorem d_Ta_shape_13 : decode prog_1_method_5_code 13 = .ok (.new 41, 3) := by decide +kernel
theorem d_Ta_shape_16 : decode prog_1_method_5_code 16 = .ok (.dup, 1) := by decide +kernel
theorem d_Ta_shape_17 : decode prog_1_method_5_code 17 = .ok (.invokespecial 43, 3) := by decide +kernel
theorem d_Ta_shape_20 : decode prog_1_method_5_code 20 = .ok (.athrow, 1) := by decide +kernel
theorem d_Ta_shape_21 : decode prog_1_method_5_code 21 = .ok (.aload_n 0, 1) := by decide +kernel
theorem d_Ta_shape_22 : decode prog_1_method_5_code 22 = .ok (.bipush 6, 2) := by decide +kernel
theorem d_Ta_shape_24 : decode prog_1_method_5_code 24 = .ok (.invokevirtual 51, 3) := by decide +kernel
theorem d_Ta_shape_27 : decode prog_1_method_5_code 27 = .ok (.aload_n 0, 1) := by decide +kernel
theorem d_Ta_shape_28 : decode prog_1_method_5_code 28 = .ok (.getfield 29, 3) := by decide +kernel
theorem d_Ta_shape_31 : decode prog_1_method_5_code 31 = .ok (.iload_n 1, 1) := by decide +kernel
theorem d_Ta_shape_32 : decode prog_1_method_5_code 32 = .ok (.iload_n 2, 1) := by decide +kernel
theorem d_Ta_shape_33 : decode prog_1_method_5_code 33 = .ok (.iload_n 3, 1) := by decide +kernel
theorem d_Ta_shape_34 : decode prog_1_method_5_code 34 = .ok (.invokevirtual 95, 3) := by decide +kernel
theorem d_Ta_shape_37 : decode prog_1_method_5_code 37 = .ok (.aload_n 0, 1) := by decide +kernel
theorem d_Ta_shape_38 : decode prog_1_method_5_code 38 = .ok (.getfield 10, 3) := by decide +kernel
theorem d_Ta_shape_41 : decode prog_1_method_5_code 41 = .ok (.iload_n 1, 1) := by decide +kernel
theorem d_Ta_shape_42 : decode prog_1_method_5_code 42 = .ok (.invokevirtual 83, 3) := by decide +kernel
theorem d_Ta_shape_45 : decode prog_1_method_5_code 45 = .ok (.iload_n 2, 1) := by decide +kernel
theorem d_Ta_shape_46 : decode prog_1_method_5_code 46 = .ok (.iload_n 3, 1) := by decide +kernel
theorem d_Ta_shape_47 : decode prog_1_method_5_code 47 = .ok (.invokevirtual 98, 3) := by decide +kernel
theorem d_Ta_shape_50 : decode prog_1_method_5_code 50 = .ok (.return_, 1) := by decide +kernel
theorem d_Ta_timer_0 : decode prog_1_method_6_code 0 = .ok (.aload_n 0, 1) := by decide +kernel
theorem d_Ta_timer_1 : decode prog_1_method_6_code 1 = .ok (.iload_n 1, 1) := by decide +kernel
theorem d_Ta_timer_2 : decode prog_1_method_6_code 2 = .ok (.invokevirtual 63, 3) := by decide +kernel
theorem d_Ta_timer_5 : decode prog_1_method_6_code 5 = .ok (.iload_n 2, 1) := by decide +kernel
theorem d_Ta_timer_6 : decode prog_1_method_6_code 6 = .ok (.invokestatic 101, 3) := by decide +kernel
theorem d_Ta_timer_9 : decode prog_1_method_6_code 9 = .ok (.ifCond .ne 11, 3) := by decide +kernel
theorem d_Ta_timer_12 : decode prog_1_method_6_code 12 = .ok (.new 41, 3) := by decide +kernel
theorem d_Ta_timer_15 : decode prog_1_method_6_code 15 = .ok (.dup, 1) := by decide +kernel
theorem d_Ta_timer_16 : decode prog_1_method_6_code 16 = .ok (.invokespecial 43, 3) := by decide +kernel
theorem d_Ta_timer_19 : decode prog_1_method_6_code 19 = .ok (.athrow, 1) := by decide +kernel
theorem d_Ta_timer_20 : decode prog_1_method_6_code 20 = .ok (.aload_n 0, 1) := by decide +kernel
theorem d_Ta_timer_21 : decode prog_1_method_6_code 21 = .ok (.bipush 6, 2) := by decide +kernel
theorem d_Ta_timer_23 : decode prog_1_method_6_code 23 = .ok (.invokevirtual 51, 3) := by decide +kernel
theorem d_Ta_timer_26 : decode prog_1_method_6_code 26 = .ok (.aload_n 0, 1) := by decide +kernel
theorem d_Ta_timer_27 : decode prog_1_method_6_code 27 = .ok (.getfield 29, 3) := by decide +kernel
theorem d_Ta_timer_30 : decode prog_1_method_6_code 30 = .ok (.iload_n 1, 1) := by decide +kernel
theorem d_Ta_timer_31 : decode prog_1_method_6_code 31 = .ok (.iload_n 2, 1) := by decide +kernel
theorem d_Ta_timer_32 : decode prog_1_method_6_code 32 = .ok (.invokevirtual 105, 3) := by decide +kernel
theorem d_Ta_timer_35 : decode prog_1_method_6_code 35 = .ok (.aload_n 0, 1) := by decide +kernel
theorem d_Ta_timer_36 : decode prog_1_method_6_code 36 = .ok (.getfield 10, 3) := by decide +kernel
theorem d_Ta_timer_39 : decode prog_1_method_6_code 39 = .ok (.iload_n 1, 1) := by decide +kernel
theorem d_Ta_timer_40 : decode prog_1_method_6_code 40 = .ok (.invokevirtual 83, 3) := by decide +kernel
theorem d_Ta_timer_43 : decode prog_1_method_6_code 43 = .ok (.iload_n 2, 1) := by decide +kernel
theorem d_Ta_timer_44 : decode prog_1_method_6_code 44 = .ok (.putfield 108, 3) := by decide +kernel
theorem d_Ta_timer_47 : decode prog_1_method_6_code 47 = .ok (.return_, 1) := by decide +kernel
theorem d_Ta_tick_0 : decode prog_1_method_7_code 0 = .ok (.iload_n 1, 1) := by decide +kernel
theorem d_Ta_tick_1 : decode prog_1_method_7_code 1 = .ok (.iconst 1, 1) := by decide +kernel
theorem d_Ta_tick_2 : decode prog_1_method_7_code 2 = .ok (.bipush 50, 2) := by decide +kernel
theorem d_Ta_tick_4 : decode prog_1_method_7_code 4 = .ok (.invokestatic 112, 3) := by decide +kernel
theorem d_Ta_tick_7 : decode prog_1_method_7_code 7 = .ok (.ifCond .ne 11, 3) := by decide +kernel
theorem d_Ta_tick_10 : decode prog_1_method_7_code 10 = .ok (.new 41, 3) := by decide +kernel
theorem d_Ta_tick_13 : decode prog_1_method_7_code 13 = .ok (.dup, 1) := by decide +kernel
theorem d_Ta_tick_14 : decode prog_1_method_7_code 14 = .ok (.invokespecial 43, 3) := by decide +kernel
theorem d_Ta_tick_17 : decode prog_1_method_7_code 17 = .ok (.athrow, 1) := by decide +kernel
theorem d_Ta_tick_18 : decode prog_1_method_7_code 18 = .ok (.aload_n 0, 1) := by decide +kernel
theorem d_Ta_tick_19 : decode prog_1_method_7_code 19 = .ok (.iload_n 1, 1) := by decide +kernel
theorem d_Ta_tick_20 : decode prog_1_method_7_code 20 = .ok (.iconst 1, 1) := by decide +kernel
theorem d_Ta_tick_21 : decode prog_1_method_7_code 21 = .ok (.imul, 1) := by decide +kernel
theorem d_Ta_tick_22 : decode prog_1_method_7_code 22 = .ok (.invokevirtual 51, 3) := by decide +kernel
theorem d_Ta_tick_25 : decode prog_1_method_7_code 25 = .ok (.iconst 0, 1) := by decide +kernel
theorem d_Ta_tick_26 : decode prog_1_method_7_code 26 = .ok (.istore_n 2, 1) := by decide +kernel
theorem d_Ta_tick_27 : decode prog_1_method_7_code 27 = .ok (.iload_n 2, 1) := by decide +kernel
theorem d_Ta_tick_28 : decode prog_1_method_7_code 28 = .ok (.iload_n 1, 1) := by decide +kernel
theorem d_Ta_tick_29 : decode prog_1_method_7_code 29 = .ok (.if_icmp .ge 23, 3) := by decide +kernel
theorem d_Ta_tick_32 : decode prog_1_method_7_code 32 = .ok (.aload_n 0, 1) := by decide +kernel
theorem d_Ta_tick_33 : decode prog_1_method_7_code 33 = .ok (.getfield 29, 3) := by decide +kernel
theorem d_Ta_tick_36 : decode prog_1_method_7_code 36 = .ok (.invokevirtual 116, 3) := by decide +kernel
theorem d_Ta_tick_39 : decode prog_1_method_7_code 39 = .ok (.aload_n 0, 1) := by decide +kernel
theorem d_Ta_tick_40 : decode prog_1_method_7_code 40 = .ok (.getfield 10, 3) := by decide +kernel
theorem d_Ta_tick_43 : decode prog_1_method_7_code 43 = .ok (.invokevirtual 119, 3) := by decide +kernel
theorem d_Ta_tick_46 : decode prog_1_method_7_code 46 = .ok (.iinc 2 1, 3) := by decide +kernel
theorem d_Ta_tick_49 : decode prog_1_method_7_code 49 = .ok (.goto (-22), 3) := by decide +kernel
theorem d_Ta_tick_52 : decode prog_1_method_7_code 52 = .ok (.aload_n 0, 1) := by decide +kernel
theorem d_Ta_tick_53 : decode prog_1_method_7_code 53 = .ok (.getfield 10, 3) := by decide +kernel
theorem d_Ta_tick_56 : decode prog_1_method_7_code 56 = .ok (.getfield 122, 3) := by decide +kernel
theorem d_Ta_tick_59 : decode prog_1_method_7_code 59 = .ok (.getfield 126, 3) := by decide +kernel
theorem d_Ta_tick_62 : decode prog_1_method_7_code 62 = .ok (.ireturn, 1) := by decide +kernel
theorem d_Ta_event_0 : decode prog_1_method_8_code 0 = .ok (.aload_n 0, 1) := by decide +kernel
theorem d_Ta_event_1 : decode prog_1_method_8_code 1 = .ok (.getfield 10, 3) := by decide +kernel
theorem d_Ta_event_4 : decode prog_1_method_8_code 4 = .ok (.getfield 122, 3) := by decide +kernel
theorem d_Ta_event_7 : decode prog_1_method_8_code 7 = .ok (.astore_n 3, 1) := by decide +kernel
theorem d_Ta_event_8 : decode prog_1_method_8_code 8 = .ok (.aload_n 3, 1) := by decide +kernel
theorem d_Ta_event_9 : decode prog_1_method_8_code 9 = .ok (.iload_n 1, 1) := by decide +kernel
theorem d_Ta_event_10 : decode prog_1_method_8_code 10 = .ok (.invokevirtual 131, 3) := by decide +kernel
theorem d_Ta_event_13 : decode prog_1_method_8_code 13 = .ok (.ifCond .ne 11, 3) := by decide +kernel
theorem d_Ta_event_16 : decode prog_1_method_8_code 16 = .ok (.new 134, 3) := by decide +kernel
theorem d_Ta_event_19 : decode prog_1_method_8_code 19 = .ok (.dup, 1) := by decide +kernel
theorem d_Ta_event_20 : decode prog_1_method_8_code 20 = .ok (.invokespecial 136, 3) := by decide +kernel
theorem d_Ta_event_23 : decode prog_1_method_8_code 23 = .ok (.athrow, 1) := by decide +kernel
theorem d_Ta_event_24 : decode prog_1_method_8_code 24 = .ok (.iload_n 2, 1) := by decide +kernel
theorem d_Ta_event_25 : decode prog_1_method_8_code 25 = .ok (.tableswitch 54 0 2 #[27, 34, 44], 27) := by decide +kernel
theorem d_Ta_event_52 : decode prog_1_method_8_code 52 = .ok (.aload_n 3, 1) := by decide +kernel
theorem d_Ta_event_53 : decode prog_1_method_8_code 53 = .ok (.getfield 137, 3) := by decide +kernel
theorem d_Ta_event_56 : decode prog_1_method_8_code 56 = .ok (.iload_n 1, 1) := by decide +kernel
theorem d_Ta_event_57 : decode prog_1_method_8_code 57 = .ok (.iaload, 1) := by decide +kernel
theorem d_Ta_event_58 : decode prog_1_method_8_code 58 = .ok (.ireturn, 1) := by decide +kernel
theorem d_Ta_event_59 : decode prog_1_method_8_code 59 = .ok (.aload_n 3, 1) := by decide +kernel
theorem d_Ta_event_60 : decode prog_1_method_8_code 60 = .ok (.getfield 141, 3) := by decide +kernel
theorem d_Ta_event_63 : decode prog_1_method_8_code 63 = .ok (.iload_n 1, 1) := by decide +kernel
theorem d_Ta_event_64 : decode prog_1_method_8_code 64 = .ok (.iaload, 1) := by decide +kernel
theorem d_Ta_event_65 : decode prog_1_method_8_code 65 = .ok (.invokestatic 144, 3) := by decide +kernel
theorem d_Ta_event_68 : decode prog_1_method_8_code 68 = .ok (.ireturn, 1) := by decide +kernel
theorem d_Ta_event_69 : decode prog_1_method_8_code 69 = .ok (.aload_n 3, 1) := by decide +kernel
theorem d_Ta_event_70 : decode prog_1_method_8_code 70 = .ok (.getfield 141, 3) := by decide +kernel
theorem d_Ta_event_73 : decode prog_1_method_8_code 73 = .ok (.iload_n 1, 1) := by decide +kernel
theorem d_Ta_event_74 : decode prog_1_method_8_code 74 = .ok (.iaload, 1) := by decide +kernel
theorem d_Ta_event_75 : decode prog_1_method_8_code 75 = .ok (.invokestatic 147, 3) := by decide +kernel
theorem d_Ta_event_78 : decode prog_1_method_8_code 78 = .ok (.ireturn, 1) := by decide +kernel
theorem d_Ta_event_79 : decode prog_1_method_8_code 79 = .ok (.new 41, 3) := by decide +kernel
theorem d_Ta_event_82 : decode prog_1_method_8_code 82 = .ok (.dup, 1) := by decide +kernel
theorem d_Ta_event_83 : decode prog_1_method_8_code 83 = .ok (.invokespecial 43, 3) := by decide +kernel
theorem d_Ta_event_86 : decode prog_1_method_8_code 86 = .ok (.athrow, 1) := by decide +kernel
theorem d_Ta_good_0 : decode prog_1_method_9_code 0 = .ok (.aload_n 0, 1) := by decide +kernel
theorem d_Ta_good_1 : decode prog_1_method_9_code 1 = .ok (.getfield 10, 3) := by decide +kernel
theorem d_Ta_good_4 : decode prog_1_method_9_code 4 = .ok (.iload_n 1, 1) := by decide +kernel
theorem d_Ta_good_5 : decode prog_1_method_9_code 5 = .ok (.invokevirtual 150, 3) := by decide +kernel
theorem d_Ta_good_8 : decode prog_1_method_9_code 8 = .ok (.ireturn, 1) := by decide +kernel
theorem d_Ta_about_0 : decode prog_1_method_10_code 0 = .ok (.aload_n 0, 1) := by decide +kernel
theorem d_Ta_about_1 : decode prog_1_method_10_code 1 = .ok (.iload_n 1, 1) := by decide +kernel
theorem d_Ta_about_2 : decode prog_1_method_10_code 2 = .ok (.invokevirtual 63, 3) := by decide +kernel
theorem d_Ta_about_5 : decode prog_1_method_10_code 5 = .ok (.aload_n 0, 1) := by decide +kernel
theorem d_Ta_about_6 : decode prog_1_method_10_code 6 = .ok (.getfield 10, 3) := by decide +kernel
theorem d_Ta_about_9 : decode prog_1_method_10_code 9 = .ok (.iload_n 1, 1) := by decide +kernel
theorem d_Ta_about_10 : decode prog_1_method_10_code 10 = .ok (.invokevirtual 83, 3) := by decide +kernel
theorem d_Ta_about_13 : decode prog_1_method_10_code 13 = .ok (.astore_n 3, 1) := by decide +kernel
theorem d_Ta_about_14 : decode prog_1_method_10_code 14 = .ok (.iload_n 2, 1) := by decide +kernel
theorem d_Ta_about_15 : decode prog_1_method_10_code 15 = .ok (.tableswitch 76 0 6 #[41, 46, 51, 56, 61, 66, 71], 41) := by decide +kernel
theorem d_Ta_about_56 : decode prog_1_method_10_code 56 = .ok (.aload_n 3, 1) := by decide +kernel
theorem d_Ta_about_57 : decode prog_1_method_10_code 57 = .ok (.getfield 153, 3) := by decide +kernel
theorem d_Ta_about_60 : decode prog_1_method_10_code 60 = .ok (.ireturn, 1) := by decide +kernel
theorem d_Ta_about_61 : decode prog_1_method_10_code 61 = .ok (.aload_n 3, 1) := by decide +kernel
theorem d_Ta_about_62 : decode prog_1_method_10_code 62 = .ok (.getfield 156, 3) := by decide +kernel
theorem d_Ta_about_65 : decode prog_1_method_10_code 65 = .ok (.ireturn, 1) := by decide +kernel
theorem d_Ta_about_66 : decode prog_1_method_10_code 66 = .ok (.aload_n 3, 1) := by decide +kernel
theorem d_Ta_about_67 : decode prog_1_method_10_code 67 = .ok (.getfield 159, 3) := by decide +kernel
theorem d_Ta_about_70 : decode prog_1_method_10_code 70 = .ok (.ireturn, 1) := by decide +kernel
theorem d_Ta_about_71 : decode prog_1_method_10_code 71 = .ok (.aload_n 3, 1) := by decide +kernel
theorem d_Ta_about_72 : decode prog_1_method_10_code 72 = .ok (.getfield 162, 3) := by decide +kernel
theorem d_Ta_about_75 : decode prog_1_method_10_code 75 = .ok (.ireturn, 1) := by decide +kernel
theorem d_Ta_about_76 : decode prog_1_method_10_code 76 = .ok (.aload_n 3, 1) := by decide +kernel
theorem d_Ta_about_77 : decode prog_1_method_10_code 77 = .ok (.getfield 165, 3) := by decide +kernel
theorem d_Ta_about_80 : decode prog_1_method_10_code 80 = .ok (.ireturn, 1) := by decide +kernel
theorem d_Ta_about_81 : decode prog_1_method_10_code 81 = .ok (.aload_n 3, 1) := by decide +kernel
theorem d_Ta_about_82 : decode prog_1_method_10_code 82 = .ok (.getfield 168, 3) := by decide +kernel
theorem d_Ta_about_85 : decode prog_1_method_10_code 85 = .ok (.ireturn, 1) := by decide +kernel
theorem d_Ta_about_86 : decode prog_1_method_10_code 86 = .ok (.aload_n 3, 1) := by decide +kernel
theorem d_Ta_about_87 : decode prog_1_method_10_code 87 = .ok (.getfield 108, 3) := by decide +kernel
theorem d_Ta_about_90 : decode prog_1_method_10_code 90 = .ok (.ireturn, 1) := by decide +kernel
theorem d_Ta_about_91 : decode prog_1_method_10_code 91 = .ok (.new 134, 3) := by decide +kernel
theorem d_Ta_about_94 : decode prog_1_method_10_code 94 = .ok (.dup, 1) := by decide +kernel
theorem d_Ta_about_95 : decode prog_1_method_10_code 95 = .ok (.invokespecial 136, 3) := by decide +kernel
theorem d_Ta_about_98 : decode prog_1_method_10_code 98 = .ok (.athrow, 1) := by decide +kernel
theorem d_Ta_handleOf_0 : decode prog_1_method_11_code 0 = .ok (.iload_n 1, 1) := by decide +kernel
theorem d_Ta_handleOf_1 : decode prog_1_method_11_code 1 = .ok (.iconst 0, 1) := by decide +kernel
theorem d_Ta_handleOf_2 : decode prog_1_method_11_code 2 = .ok (.bipush 15, 2) := by decide +kernel
theorem d_Ta_handleOf_4 : decode prog_1_method_11_code 4 = .ok (.invokestatic 112, 3) := by decide +kernel
theorem d_Ta_handleOf_7 : decode prog_1_method_11_code 7 = .ok (.ifCond .ne 11, 3) := by decide +kernel
theorem d_Ta_handleOf_10 : decode prog_1_method_11_code 10 = .ok (.new 134, 3) := by decide +kernel
theorem d_Ta_handleOf_13 : decode prog_1_method_11_code 13 = .ok (.dup, 1) := by decide +kernel
theorem d_Ta_handleOf_14 : decode prog_1_method_11_code 14 = .ok (.invokespecial 136, 3) := by decide +kernel
theorem d_Ta_handleOf_17 : decode prog_1_method_11_code 17 = .ok (.athrow, 1) := by decide +kernel
theorem d_Ta_handleOf_18 : decode prog_1_method_11_code 18 = .ok (.aload_n 0, 1) := by decide +kernel
theorem d_Ta_handleOf_19 : decode prog_1_method_11_code 19 = .ok (.getfield 10, 3) := by decide +kernel
theorem d_Ta_handleOf_22 : decode prog_1_method_11_code 22 = .ok (.getfield 171, 3) := by decide +kernel
theorem d_Ta_handleOf_25 : decode prog_1_method_11_code 25 = .ok (.iload_n 1, 1) := by decide +kernel
theorem d_Ta_handleOf_26 : decode prog_1_method_11_code 26 = .ok (.aaload, 1) := by decide +kernel
theorem d_Ta_handleOf_27 : decode prog_1_method_11_code 27 = .ok (.getfield 175, 3) := by decide +kernel
theorem d_Ta_handleOf_30 : decode prog_1_method_11_code 30 = .ok (.ifCond .eq 14, 3) := by decide +kernel
theorem d_Ta_handleOf_33 : decode prog_1_method_11_code 33 = .ok (.aload_n 0, 1) := by decide +kernel
theorem d_Ta_handleOf_34 : decode prog_1_method_11_code 34 = .ok (.getfield 10, 3) := by decide +kernel
theorem d_Ta_handleOf_37 : decode prog_1_method_11_code 37 = .ok (.iload_n 1, 1) := by decide +kernel
theorem d_Ta_handleOf_38 : decode prog_1_method_11_code 38 = .ok (.invokevirtual 179, 3) := by decide +kernel
theorem d_Ta_handleOf_41 : decode prog_1_method_11_code 41 = .ok (.goto 4, 3) := by decide +kernel
theorem d_Ta_handleOf_44 : decode prog_1_method_11_code 44 = .ok (.iconst (-1), 1) := by decide +kernel
theorem d_Ta_handleOf_45 : decode prog_1_method_11_code 45 = .ok (.ireturn, 1) := by decide +kernel
theorem d_Ta_under_0 : decode prog_1_method_12_code 0 = .ok (.iload_n 1, 1) := by decide +kernel
theorem d_Ta_under_1 : decode prog_1_method_12_code 1 = .ok (.iload_n 2, 1) := by decide +kernel
theorem d_Ta_under_2 : decode prog_1_method_12_code 2 = .ok (.invokestatic 37, 3) := by decide +kernel
theorem d_Ta_under_5 : decode prog_1_method_12_code 5 = .ok (.ifCond .ne 11, 3) := by decide +kernel
theorem d_Ta_under_8 : decode prog_1_method_12_code 8 = .ok (.new 41, 3) := by decide +kernel
theorem d_Ta_under_11 : decode prog_1_method_12_code 11 = .ok (.dup, 1) := by decide +kernel
theorem d_Ta_under_12 : decode prog_1_method_12_code 12 = .ok (.invokespecial 43, 3) := by decide +kernel
theorem d_Ta_under_15 : decode prog_1_method_12_code 15 = .ok (.athrow, 1) := by decide +kernel
theorem d_Ta_under_16 : decode prog_1_method_12_code 16 = .ok (.aload_n 0, 1) := by decide +kernel
theorem d_Ta_under_17 : decode prog_1_method_12_code 17 = .ok (.getfield 10, 3) := by decide +kernel
theorem d_Ta_under_20 : decode prog_1_method_12_code 20 = .ok (.iload_n 1, 1) := by decide +kernel
theorem d_Ta_under_21 : decode prog_1_method_12_code 21 = .ok (.iload_n 2, 1) := by decide +kernel
theorem d_Ta_under_22 : decode prog_1_method_12_code 22 = .ok (.invokevirtual 182, 3) := by decide +kernel
theorem d_Ta_under_25 : decode prog_1_method_12_code 25 = .ok (.ireturn, 1) := by decide +kernel
theorem d_Ta_clock_0 : decode prog_1_method_13_code 0 = .ok (.aload_n 0, 1) := by decide +kernel
theorem d_Ta_clock_1 : decode prog_1_method_13_code 1 = .ok (.getfield 10, 3) := by decide +kernel
theorem d_Ta_clock_4 : decode prog_1_method_13_code 4 = .ok (.getfield 185, 3) := by decide +kernel
theorem d_Ta_clock_7 : decode prog_1_method_13_code 7 = .ok (.ireturn, 1) := by decide +kernel
theorem d_Ta_save_0 : decode prog_1_method_14_code 0 = .ok (.aload_n 0, 1) := by decide +kernel
theorem d_Ta_save_1 : decode prog_1_method_14_code 1 = .ok (.getfield 22, 3) := by decide +kernel
theorem d_Ta_save_4 : decode prog_1_method_14_code 4 = .ok (.aload_n 0, 1) := by decide +kernel
theorem d_Ta_save_5 : decode prog_1_method_14_code 5 = .ok (.getfield 10, 3) := by decide +kernel
theorem d_Ta_save_8 : decode prog_1_method_14_code 8 = .ok (.invokevirtual 33, 3) := by decide +kernel
theorem d_Ta_save_11 : decode prog_1_method_14_code 11 = .ok (.aload_n 0, 1) := by decide +kernel
theorem d_Ta_save_12 : decode prog_1_method_14_code 12 = .ok (.getfield 29, 3) := by decide +kernel
theorem d_Ta_save_15 : decode prog_1_method_14_code 15 = .ok (.getfield 188, 3) := by decide +kernel
theorem d_Ta_save_18 : decode prog_1_method_14_code 18 = .ok (.invokevirtual 192, 3) := by decide +kernel
theorem d_Ta_save_21 : decode prog_1_method_14_code 21 = .ok (.aload_n 0, 1) := by decide +kernel
theorem d_Ta_save_22 : decode prog_1_method_14_code 22 = .ok (.getfield 10, 3) := by decide +kernel
theorem d_Ta_save_25 : decode prog_1_method_14_code 25 = .ok (.getfield 122, 3) := by decide +kernel
theorem d_Ta_save_28 : decode prog_1_method_14_code 28 = .ok (.invokevirtual 197, 3) := by decide +kernel
theorem d_Ta_save_31 : decode prog_1_method_14_code 31 = .ok (.aload_n 0, 1) := by decide +kernel
theorem d_Ta_save_32 : decode prog_1_method_14_code 32 = .ok (.getfield 22, 3) := by decide +kernel
theorem d_Ta_save_35 : decode prog_1_method_14_code 35 = .ok (.getfield 198, 3) := by decide +kernel
theorem d_Ta_save_38 : decode prog_1_method_14_code 38 = .ok (.getfield 199, 3) := by decide +kernel
theorem d_Ta_save_41 : decode prog_1_method_14_code 41 = .ok (.ireturn, 1) := by decide +kernel
theorem d_Ta_load_0 : decode prog_1_method_15_code 0 = .ok (.aload_n 0, 1) := by decide +kernel
theorem d_Ta_load_1 : decode prog_1_method_15_code 1 = .ok (.getfield 22, 3) := by decide +kernel
theorem d_Ta_load_4 : decode prog_1_method_15_code 4 = .ok (.aload_n 0, 1) := by decide +kernel
theorem d_Ta_load_5 : decode prog_1_method_15_code 5 = .ok (.getfield 16, 3) := by decide +kernel
theorem d_Ta_load_8 : decode prog_1_method_15_code 8 = .ok (.invokevirtual 200, 3) := by decide +kernel
theorem d_Ta_load_11 : decode prog_1_method_15_code 11 = .ok (.ifCond .ne 11, 3) := by decide +kernel
theorem d_Ta_load_14 : decode prog_1_method_15_code 14 = .ok (.new 48, 3) := by decide +kernel
theorem d_Ta_load_17 : decode prog_1_method_15_code 17 = .ok (.dup, 1) := by decide +kernel
theorem d_Ta_load_18 : decode prog_1_method_15_code 18 = .ok (.invokespecial 50, 3) := by decide +kernel
theorem d_Ta_load_21 : decode prog_1_method_15_code 21 = .ok (.athrow, 1) := by decide +kernel
theorem d_Ta_load_22 : decode prog_1_method_15_code 22 = .ok (.aload_n 0, 1) := by decide +kernel
theorem d_Ta_load_23 : decode prog_1_method_15_code 23 = .ok (.getfield 29, 3) := by decide +kernel
theorem d_Ta_load_26 : decode prog_1_method_15_code 26 = .ok (.getfield 188, 3) := by decide +kernel
theorem d_Ta_load_29 : decode prog_1_method_15_code 29 = .ok (.invokevirtual 192, 3) := by decide +kernel
theorem d_Ta_load_32 : decode prog_1_method_15_code 32 = .ok (.aload_n 0, 1) := by decide +kernel
theorem d_Ta_load_33 : decode prog_1_method_15_code 33 = .ok (.invokevirtual 204, 3) := by decide +kernel
theorem d_Ta_load_36 : decode prog_1_method_15_code 36 = .ok (.return_, 1) := by decide +kernel
theorem d_Ta_replay_0 : decode prog_1_method_16_code 0 = .ok (.aload_n 0, 1) := by decide +kernel
theorem d_Ta_replay_1 : decode prog_1_method_16_code 1 = .ok (.getfield 22, 3) := by decide +kernel
theorem d_Ta_replay_4 : decode prog_1_method_16_code 4 = .ok (.aload_n 0, 1) := by decide +kernel
theorem d_Ta_replay_5 : decode prog_1_method_16_code 5 = .ok (.getfield 16, 3) := by decide +kernel
theorem d_Ta_replay_8 : decode prog_1_method_16_code 8 = .ok (.invokevirtual 200, 3) := by decide +kernel
theorem d_Ta_replay_11 : decode prog_1_method_16_code 11 = .ok (.ifCond .ne 11, 3) := by decide +kernel
theorem d_Ta_replay_14 : decode prog_1_method_16_code 14 = .ok (.new 48, 3) := by decide +kernel
theorem d_Ta_replay_17 : decode prog_1_method_16_code 17 = .ok (.dup, 1) := by decide +kernel
theorem d_Ta_replay_18 : decode prog_1_method_16_code 18 = .ok (.invokespecial 50, 3) := by decide +kernel
theorem d_Ta_replay_21 : decode prog_1_method_16_code 21 = .ok (.athrow, 1) := by decide +kernel
theorem d_Ta_replay_22 : decode prog_1_method_16_code 22 = .ok (.aload_n 0, 1) := by decide +kernel
theorem d_Ta_replay_23 : decode prog_1_method_16_code 23 = .ok (.getfield 29, 3) := by decide +kernel
theorem d_Ta_replay_26 : decode prog_1_method_16_code 26 = .ok (.aload_n 0, 1) := by decide +kernel
theorem d_Ta_replay_27 : decode prog_1_method_16_code 27 = .ok (.getfield 16, 3) := by decide +kernel
theorem d_Ta_replay_30 : decode prog_1_method_16_code 30 = .ok (.invokevirtual 207, 3) := by decide +kernel
theorem d_Ta_replay_33 : decode prog_1_method_16_code 33 = .ok (.istore_n 1, 1) := by decide +kernel
theorem d_Ta_replay_34 : decode prog_1_method_16_code 34 = .ok (.iload_n 1, 1) := by decide +kernel
theorem d_Ta_replay_35 : decode prog_1_method_16_code 35 = .ok (.iconst (-1), 1) := by decide +kernel
theorem d_Ta_replay_36 : decode prog_1_method_16_code 36 = .ok (.if_icmp .ne 7, 3) := by decide +kernel
theorem d_Ta_replay_39 : decode prog_1_method_16_code 39 = .ok (.aload_n 0, 1) := by decide +kernel
theorem d_Ta_replay_40 : decode prog_1_method_16_code 40 = .ok (.invokevirtual 204, 3) := by decide +kernel
theorem d_Ta_replay_43 : decode prog_1_method_16_code 43 = .ok (.iload_n 1, 1) := by decide +kernel
theorem d_Ta_replay_44 : decode prog_1_method_16_code 44 = .ok (.ireturn, 1) := by decide +kernel
theorem d_Ta_size_0 : decode prog_1_method_17_code 0 = .ok (.aload_n 0, 1) := by decide +kernel
theorem d_Ta_size_1 : decode prog_1_method_17_code 1 = .ok (.iload_n 1, 1) := by decide +kernel
theorem d_Ta_size_2 : decode prog_1_method_17_code 2 = .ok (.invokevirtual 211, 3) := by decide +kernel
theorem d_Ta_size_5 : decode prog_1_method_17_code 5 = .ok (.getfield 199, 3) := by decide +kernel
theorem d_Ta_size_8 : decode prog_1_method_17_code 8 = .ok (.ireturn, 1) := by decide +kernel
theorem d_Ta_at_0 : decode prog_1_method_18_code 0 = .ok (.aload_n 0, 1) := by decide +kernel
theorem d_Ta_at_1 : decode prog_1_method_18_code 1 = .ok (.iload_n 2, 1) := by decide +kernel
theorem d_Ta_at_2 : decode prog_1_method_18_code 2 = .ok (.invokevirtual 211, 3) := by decide +kernel
theorem d_Ta_at_5 : decode prog_1_method_18_code 5 = .ok (.astore_n 3, 1) := by decide +kernel
theorem d_Ta_at_6 : decode prog_1_method_18_code 6 = .ok (.aload_n 3, 1) := by decide +kernel
theorem d_Ta_at_7 : decode prog_1_method_18_code 7 = .ok (.iload_n 1, 1) := by decide +kernel
theorem d_Ta_at_8 : decode prog_1_method_18_code 8 = .ok (.invokevirtual 215, 3) := by decide +kernel
theorem d_Ta_at_11 : decode prog_1_method_18_code 11 = .ok (.ifCond .ne 11, 3) := by decide +kernel
theorem d_Ta_at_14 : decode prog_1_method_18_code 14 = .ok (.new 134, 3) := by decide +kernel
theorem d_Ta_at_17 : decode prog_1_method_18_code 17 = .ok (.dup, 1) := by decide +kernel
theorem d_Ta_at_18 : decode prog_1_method_18_code 18 = .ok (.invokespecial 136, 3) := by decide +kernel
theorem d_Ta_at_21 : decode prog_1_method_18_code 21 = .ok (.athrow, 1) := by decide +kernel
theorem d_Ta_at_22 : decode prog_1_method_18_code 22 = .ok (.aload_n 3, 1) := by decide +kernel
theorem d_Ta_at_23 : decode prog_1_method_18_code 23 = .ok (.getfield 216, 3) := by decide +kernel
theorem d_Ta_at_26 : decode prog_1_method_18_code 26 = .ok (.iload_n 1, 1) := by decide +kernel
theorem d_Ta_at_27 : decode prog_1_method_18_code 27 = .ok (.iaload, 1) := by decide +kernel
theorem d_Ta_at_28 : decode prog_1_method_18_code 28 = .ok (.ireturn, 1) := by decide +kernel
theorem d_Ta_corrupt_0 : decode prog_1_method_19_code 0 = .ok (.aload_n 0, 1) := by decide +kernel
theorem d_Ta_corrupt_1 : decode prog_1_method_19_code 1 = .ok (.iload_n 3, 1) := by decide +kernel
theorem d_Ta_corrupt_2 : decode prog_1_method_19_code 2 = .ok (.invokevirtual 211, 3) := by decide +kernel
theorem d_Ta_corrupt_5 : decode prog_1_method_19_code 5 = .ok (.astore 4, 2) := by decide +kernel
theorem d_Ta_corrupt_7 : decode prog_1_method_19_code 7 = .ok (.aload 4, 2) := by decide +kernel
theorem d_Ta_corrupt_9 : decode prog_1_method_19_code 9 = .ok (.iload_n 1, 1) := by decide +kernel
theorem d_Ta_corrupt_10 : decode prog_1_method_19_code 10 = .ok (.invokevirtual 215, 3) := by decide +kernel
theorem d_Ta_corrupt_13 : decode prog_1_method_19_code 13 = .ok (.ifCond .ne 11, 3) := by decide +kernel
theorem d_Ta_corrupt_16 : decode prog_1_method_19_code 16 = .ok (.new 134, 3) := by decide +kernel
theorem d_Ta_corrupt_19 : decode prog_1_method_19_code 19 = .ok (.dup, 1) := by decide +kernel
theorem d_Ta_corrupt_20 : decode prog_1_method_19_code 20 = .ok (.invokespecial 136, 3) := by decide +kernel
theorem d_Ta_corrupt_23 : decode prog_1_method_19_code 23 = .ok (.athrow, 1) := by decide +kernel
theorem d_Ta_corrupt_24 : decode prog_1_method_19_code 24 = .ok (.iload_n 2, 1) := by decide +kernel
theorem d_Ta_corrupt_25 : decode prog_1_method_19_code 25 = .ok (.iconst 0, 1) := by decide +kernel
theorem d_Ta_corrupt_26 : decode prog_1_method_19_code 26 = .ok (.sipush 255, 3) := by decide +kernel
theorem d_Ta_corrupt_29 : decode prog_1_method_19_code 29 = .ok (.invokestatic 112, 3) := by decide +kernel
theorem d_Ta_corrupt_32 : decode prog_1_method_19_code 32 = .ok (.ifCond .ne 11, 3) := by decide +kernel
theorem d_Ta_corrupt_35 : decode prog_1_method_19_code 35 = .ok (.new 41, 3) := by decide +kernel
theorem d_Ta_corrupt_38 : decode prog_1_method_19_code 38 = .ok (.dup, 1) := by decide +kernel
theorem d_Ta_corrupt_39 : decode prog_1_method_19_code 39 = .ok (.invokespecial 43, 3) := by decide +kernel
theorem d_Ta_corrupt_42 : decode prog_1_method_19_code 42 = .ok (.athrow, 1) := by decide +kernel
theorem d_Ta_corrupt_43 : decode prog_1_method_19_code 43 = .ok (.aload 4, 2) := by decide +kernel
theorem d_Ta_corrupt_45 : decode prog_1_method_19_code 45 = .ok (.getfield 216, 3) := by decide +kernel
theorem d_Ta_corrupt_48 : decode prog_1_method_19_code 48 = .ok (.iload_n 1, 1) := by decide +kernel
theorem d_Ta_corrupt_49 : decode prog_1_method_19_code 49 = .ok (.iload_n 2, 1) := by decide +kernel
theorem d_Ta_corrupt_50 : decode prog_1_method_19_code 50 = .ok (.iastore, 1) := by decide +kernel
theorem d_Ta_corrupt_51 : decode prog_1_method_19_code 51 = .ok (.return_, 1) := by decide +kernel
theorem d_Ta_bytesOf_0 : decode prog_1_method_20_code 0 = .ok (.iload_n 1, 1) := by decide +kernel
theorem d_Ta_bytesOf_1 : decode prog_1_method_20_code 1 = .ok (.ifCond .eq 13, 3) := by decide +kernel
theorem d_Ta_bytesOf_4 : decode prog_1_method_20_code 4 = .ok (.aload_n 0, 1) := by decide +kernel
theorem d_Ta_bytesOf_5 : decode prog_1_method_20_code 5 = .ok (.getfield 29, 3) := by decide +kernel
theorem d_Ta_bytesOf_8 : decode prog_1_method_20_code 8 = .ok (.getfield 188, 3) := by decide +kernel
theorem d_Ta_bytesOf_11 : decode prog_1_method_20_code 11 = .ok (.goto 10, 3) := by decide +kernel
theorem d_Ta_bytesOf_14 : decode prog_1_method_20_code 14 = .ok (.aload_n 0, 1) := by decide +kernel
theorem d_Ta_bytesOf_15 : decode prog_1_method_20_code 15 = .ok (.getfield 22, 3) := by decide +kernel
theorem d_Ta_bytesOf_18 : decode prog_1_method_20_code 18 = .ok (.getfield 198, 3) := by decide +kernel
theorem d_Ta_bytesOf_21 : decode prog_1_method_20_code 21 = .ok (.areturn, 1) := by decide +kernel
theorem d_Ta_needGood_0 : decode prog_1_method_21_code 0 = .ok (.aload_n 0, 1) := by decide +kernel
theorem d_Ta_needGood_1 : decode prog_1_method_21_code 1 = .ok (.getfield 10, 3) := by decide +kernel
theorem d_Ta_needGood_4 : decode prog_1_method_21_code 4 = .ok (.iload_n 1, 1) := by decide +kernel
theorem d_Ta_needGood_5 : decode prog_1_method_21_code 5 = .ok (.invokevirtual 150, 3) := by decide +kernel
theorem d_Ta_needGood_8 : decode prog_1_method_21_code 8 = .ok (.ifCond .ne 11, 3) := by decide +kernel
theorem d_Ta_needGood_11 : decode prog_1_method_21_code 11 = .ok (.new 41, 3) := by decide +kernel
theorem d_Ta_needGood_14 : decode prog_1_method_21_code 14 = .ok (.dup, 1) := by decide +kernel
theorem d_Ta_needGood_15 : decode prog_1_method_21_code 15 = .ok (.invokespecial 43, 3) := by decide +kernel
theorem d_Ta_needGood_18 : decode prog_1_method_21_code 18 = .ok (.athrow, 1) := by decide +kernel
theorem d_Ta_needGood_19 : decode prog_1_method_21_code 19 = .ok (.return_, 1) := by decide +kernel
theorem d_Ta_needRoom_0 : decode prog_1_method_22_code 0 = .ok (.aload_n 0, 1) := by decide +kernel
theorem d_Ta_needRoom_1 : decode prog_1_method_22_code 1 = .ok (.getfield 29, 3) := by decide +kernel
theorem d_Ta_needRoom_4 : decode prog_1_method_22_code 4 = .ok (.getfield 188, 3) := by decide +kernel
theorem d_Ta_needRoom_7 : decode prog_1_method_22_code 7 = .ok (.iload_n 1, 1) := by decide +kernel
theorem d_Ta_needRoom_8 : decode prog_1_method_22_code 8 = .ok (.invokevirtual 219, 3) := by decide +kernel
theorem d_Ta_needRoom_11 : decode prog_1_method_22_code 11 = .ok (.ifCond .ne 11, 3) := by decide +kernel
theorem d_Ta_needRoom_14 : decode prog_1_method_22_code 14 = .ok (.new 222, 3) := by decide +kernel
theorem d_Ta_needRoom_17 : decode prog_1_method_22_code 17 = .ok (.dup, 1) := by decide +kernel
theorem d_Ta_needRoom_18 : decode prog_1_method_22_code 18 = .ok (.invokespecial 224, 3) := by decide +kernel
theorem d_Ta_needRoom_21 : decode prog_1_method_22_code 21 = .ok (.athrow, 1) := by decide +kernel
theorem d_Ta_needRoom_22 : decode prog_1_method_22_code 22 = .ok (.return_, 1) := by decide +kernel
theorem d_Ta_takeSpare_0 : decode prog_1_method_23_code 0 = .ok (.aload_n 0, 1) := by decide +kernel
theorem d_Ta_takeSpare_1 : decode prog_1_method_23_code 1 = .ok (.getfield 10, 3) := by decide +kernel
theorem d_Ta_takeSpare_4 : decode prog_1_method_23_code 4 = .ok (.astore_n 1, 1) := by decide +kernel
theorem d_Ta_takeSpare_5 : decode prog_1_method_23_code 5 = .ok (.aload_n 0, 1) := by decide +kernel
theorem d_Ta_takeSpare_6 : decode prog_1_method_23_code 6 = .ok (.aload_n 0, 1) := by decide +kernel
theorem d_Ta_takeSpare_7 : decode prog_1_method_23_code 7 = .ok (.getfield 16, 3) := by decide +kernel
theorem d_Ta_takeSpare_10 : decode prog_1_method_23_code 10 = .ok (.putfield 10, 3) := by decide +kernel
theorem d_Ta_takeSpare_13 : decode prog_1_method_23_code 13 = .ok (.aload_n 0, 1) := by decide +kernel
theorem d_Ta_takeSpare_14 : decode prog_1_method_23_code 14 = .ok (.aload_n 1, 1) := by decide +kernel
theorem d_Ta_takeSpare_15 : decode prog_1_method_23_code 15 = .ok (.putfield 16, 3) := by decide +kernel
theorem d_Ta_takeSpare_18 : decode prog_1_method_23_code 18 = .ok (.aload_n 0, 1) := by decide +kernel
theorem d_Ta_takeSpare_19 : decode prog_1_method_23_code 19 = .ok (.getfield 10, 3) := by decide +kernel
theorem d_Ta_takeSpare_22 : decode prog_1_method_23_code 22 = .ok (.getfield 122, 3) := by decide +kernel
theorem d_Ta_takeSpare_25 : decode prog_1_method_23_code 25 = .ok (.invokevirtual 197, 3) := by decide +kernel
theorem d_Ta_takeSpare_28 : decode prog_1_method_23_code 28 = .ok (.return_, 1) := by decide +kernel
theorem d_Ta_isWithin_0 : decode prog_1_method_24_code 0 = .ok (.iload_n 0, 1) := by decide +kernel
theorem d_Ta_isWithin_1 : decode prog_1_method_24_code 1 = .ok (.iload_n 1, 1) := by decide +kernel
theorem d_Ta_isWithin_2 : decode prog_1_method_24_code 2 = .ok (.if_icmp .lt 12, 3) := by decide +kernel
theorem d_Ta_isWithin_5 : decode prog_1_method_24_code 5 = .ok (.iload_n 0, 1) := by decide +kernel
theorem d_Ta_isWithin_6 : decode prog_1_method_24_code 6 = .ok (.iload_n 2, 1) := by decide +kernel
theorem d_Ta_isWithin_7 : decode prog_1_method_24_code 7 = .ok (.if_icmp .gt 7, 3) := by decide +kernel
theorem d_Ta_isWithin_10 : decode prog_1_method_24_code 10 = .ok (.iconst 1, 1) := by decide +kernel
theorem d_Ta_isWithin_11 : decode prog_1_method_24_code 11 = .ok (.goto 4, 3) := by decide +kernel
theorem d_Ta_isWithin_14 : decode prog_1_method_24_code 14 = .ok (.iconst 0, 1) := by decide +kernel
theorem d_Ta_isWithin_15 : decode prog_1_method_24_code 15 = .ok (.ireturn, 1) := by decide +kernel
theorem d_Ta_isPlace_0 : decode prog_1_method_25_code 0 = .ok (.iload_n 0, 1) := by decide +kernel
theorem d_Ta_isPlace_1 : decode prog_1_method_25_code 1 = .ok (.iconst 0, 1) := by decide +kernel
theorem d_Ta_isPlace_2 : decode prog_1_method_25_code 2 = .ok (.sipush 4095, 3) := by decide +kernel
theorem d_Ta_isPlace_5 : decode prog_1_method_25_code 5 = .ok (.invokestatic 112, 3) := by decide +kernel
theorem d_Ta_isPlace_8 : decode prog_1_method_25_code 8 = .ok (.ifCond .eq 18, 3) := by decide +kernel
theorem d_Ta_isPlace_11 : decode prog_1_method_25_code 11 = .ok (.iload_n 1, 1) := by decide +kernel
theorem d_Ta_isPlace_12 : decode prog_1_method_25_code 12 = .ok (.iconst 0, 1) := by decide +kernel
theorem d_Ta_isPlace_13 : decode prog_1_method_25_code 13 = .ok (.sipush 4095, 3) := by decide +kernel
theorem d_Ta_isPlace_16 : decode prog_1_method_25_code 16 = .ok (.invokestatic 112, 3) := by decide +kernel
theorem d_Ta_isPlace_19 : decode prog_1_method_25_code 19 = .ok (.ifCond .eq 7, 3) := by decide +kernel
theorem d_Ta_isPlace_22 : decode prog_1_method_25_code 22 = .ok (.iconst 1, 1) := by decide +kernel
theorem d_Ta_isPlace_23 : decode prog_1_method_25_code 23 = .ok (.goto 4, 3) := by decide +kernel
theorem d_Ta_isPlace_26 : decode prog_1_method_25_code 26 = .ok (.iconst 0, 1) := by decide +kernel
theorem d_Ta_isPlace_27 : decode prog_1_method_25_code 27 = .ok (.ireturn, 1) := by decide +kernel
theorem d_Ta_isSpeed_0 : decode prog_1_method_26_code 0 = .ok (.iload_n 0, 1) := by decide +kernel
theorem d_Ta_isSpeed_1 : decode prog_1_method_26_code 1 = .ok (.bipush (-100), 2) := by decide +kernel
theorem d_Ta_isSpeed_3 : decode prog_1_method_26_code 3 = .ok (.bipush 100, 2) := by decide +kernel
theorem d_Ta_isSpeed_5 : decode prog_1_method_26_code 5 = .ok (.invokestatic 112, 3) := by decide +kernel
theorem d_Ta_isSpeed_8 : decode prog_1_method_26_code 8 = .ok (.ifCond .eq 18, 3) := by decide +kernel
theorem d_Ta_isSpeed_11 : decode prog_1_method_26_code 11 = .ok (.iload_n 1, 1) := by decide +kernel
theorem d_Ta_isSpeed_12 : decode prog_1_method_26_code 12 = .ok (.bipush (-100), 2) := by decide +kernel
theorem d_Ta_isSpeed_14 : decode prog_1_method_26_code 14 = .ok (.bipush 100, 2) := by decide +kernel
theorem d_Ta_isSpeed_16 : decode prog_1_method_26_code 16 = .ok (.invokestatic 112, 3) := by decide +kernel
theorem d_Ta_isSpeed_19 : decode prog_1_method_26_code 19 = .ok (.ifCond .eq 7, 3) := by decide +kernel
theorem d_Ta_isSpeed_22 : decode prog_1_method_26_code 22 = .ok (.iconst 1, 1) := by decide +kernel
theorem d_Ta_isSpeed_23 : decode prog_1_method_26_code 23 = .ok (.goto 4, 3) := by decide +kernel
theorem d_Ta_isSpeed_26 : decode prog_1_method_26_code 26 = .ok (.iconst 0, 1) := by decide +kernel
theorem d_Ta_isSpeed_27 : decode prog_1_method_26_code 27 = .ok (.ireturn, 1) := by decide +kernel
theorem d_Ta_isShape_0 : decode prog_1_method_27_code 0 = .ok (.iload_n 0, 1) := by decide +kernel
theorem d_Ta_isShape_1 : decode prog_1_method_27_code 1 = .ok (.iconst 1, 1) := by decide +kernel
theorem d_Ta_isShape_2 : decode prog_1_method_27_code 2 = .ok (.sipush 200, 3) := by decide +kernel
theorem d_Ta_isShape_5 : decode prog_1_method_27_code 5 = .ok (.invokestatic 112, 3) := by decide +kernel
theorem d_Ta_isShape_8 : decode prog_1_method_27_code 8 = .ok (.ifCond .eq 18, 3) := by decide +kernel
theorem d_Ta_isShape_11 : decode prog_1_method_27_code 11 = .ok (.iload_n 1, 1) := by decide +kernel
theorem d_Ta_isShape_12 : decode prog_1_method_27_code 12 = .ok (.iconst 1, 1) := by decide +kernel
theorem d_Ta_isShape_13 : decode prog_1_method_27_code 13 = .ok (.sipush 200, 3) := by decide +kernel
theorem d_Ta_isShape_16 : decode prog_1_method_27_code 16 = .ok (.invokestatic 112, 3) := by decide +kernel
theorem d_Ta_isShape_19 : decode prog_1_method_27_code 19 = .ok (.ifCond .eq 7, 3) := by decide +kernel
theorem d_Ta_isShape_22 : decode prog_1_method_27_code 22 = .ok (.iconst 1, 1) := by decide +kernel
theorem d_Ta_isShape_23 : decode prog_1_method_27_code 23 = .ok (.goto 4, 3) := by decide +kernel
theorem d_Ta_isShape_26 : decode prog_1_method_27_code 26 = .ok (.iconst 0, 1) := by decide +kernel
theorem d_Ta_isShape_27 : decode prog_1_method_27_code 27 = .ok (.ireturn, 1) := by decide +kernel
theorem d_Ta_isShapeOrNone_0 : decode prog_1_method_28_code 0 = .ok (.iload_n 0, 1) := by decide +kernel
theorem d_Ta_isShapeOrNone_1 : decode prog_1_method_28_code 1 = .ok (.ifCond .ne 7, 3) := by decide +kernel
theorem d_Ta_isShapeOrNone_4 : decode prog_1_method_28_code 4 = .ok (.iload_n 1, 1) := by decide +kernel
theorem d_Ta_isShapeOrNone_5 : decode prog_1_method_28_code 5 = .ok (.ifCond .eq 11, 3) := by decide +kernel
theorem d_Ta_isShapeOrNone_8 : decode prog_1_method_28_code 8 = .ok (.iload_n 0, 1) := by decide +kernel
theorem d_Ta_isShapeOrNone_9 : decode prog_1_method_28_code 9 = .ok (.iload_n 1, 1) := by decide +kernel
theorem d_Ta_isShapeOrNone_10 : decode prog_1_method_28_code 10 = .ok (.invokestatic 225, 3) := by decide +kernel
theorem d_Ta_isShapeOrNone_13 : decode prog_1_method_28_code 13 = .ok (.ifCond .eq 7, 3) := by decide +kernel
theorem d_Ta_isShapeOrNone_16 : decode prog_1_method_28_code 16 = .ok (.iconst 1, 1) := by decide +kernel
theorem d_Ta_isShapeOrNone_17 : decode prog_1_method_28_code 17 = .ok (.goto 4, 3) := by decide +kernel
theorem d_Ta_isShapeOrNone_20 : decode prog_1_method_28_code 20 = .ok (.iconst 0, 1) := by decide +kernel
theorem d_Ta_isShapeOrNone_21 : decode prog_1_method_28_code 21 = .ok (.ireturn, 1) := by decide +kernel
theorem d_Ta_isTimer_0 : decode prog_1_method_29_code 0 = .ok (.iload_n 0, 1) := by decide +kernel
theorem d_Ta_isTimer_1 : decode prog_1_method_29_code 1 = .ok (.iconst 1, 1) := by decide +kernel
theorem d_Ta_isTimer_2 : decode prog_1_method_29_code 2 = .ok (.ldc 228, 2) := by decide +kernel
theorem d_Ta_isTimer_4 : decode prog_1_method_29_code 4 = .ok (.invokestatic 112, 3) := by decide +kernel
theorem d_Ta_isTimer_7 : decode prog_1_method_29_code 7 = .ok (.ireturn, 1) := by decide +kernel
theorem d_Ta_isTimerOrNone_0 : decode prog_1_method_30_code 0 = .ok (.iload_n 0, 1) := by decide +kernel
theorem d_Ta_isTimerOrNone_1 : decode prog_1_method_30_code 1 = .ok (.ifCond .eq 10, 3) := by decide +kernel
theorem d_Ta_isTimerOrNone_4 : decode prog_1_method_30_code 4 = .ok (.iload_n 0, 1) := by decide +kernel
theorem d_Ta_isTimerOrNone_5 : decode prog_1_method_30_code 5 = .ok (.invokestatic 229, 3) := by decide +kernel
theorem d_Ta_isTimerOrNone_8 : decode prog_1_method_30_code 8 = .ok (.ifCond .eq 7, 3) := by decide +kernel
theorem d_Ta_isTimerOrNone_11 : decode prog_1_method_30_code 11 = .ok (.iconst 1, 1) := by decide +kernel
theorem d_Ta_isTimerOrNone_12 : decode prog_1_method_30_code 12 = .ok (.goto 4, 3) := by decide +kernel
theorem d_Ta_isTimerOrNone_15 : decode prog_1_method_30_code 15 = .ok (.iconst 0, 1) := by decide +kernel
theorem d_Ta_isTimerOrNone_16 : decode prog_1_method_30_code 16 = .ok (.ireturn, 1) := by decide +kernel
theorem d_Ta_areCloser_0 : decode prog_1_method_31_code 0 = .ok (.iload_n 0, 1) := by decide +kernel
theorem d_Ta_areCloser_1 : decode prog_1_method_31_code 1 = .ok (.iload_n 1, 1) := by decide +kernel
theorem d_Ta_areCloser_2 : decode prog_1_method_31_code 2 = .ok (.isub, 1) := by decide +kernel
theorem d_Ta_areCloser_3 : decode prog_1_method_31_code 3 = .ok (.iload_n 2, 1) := by decide +kernel
theorem d_Ta_areCloser_4 : decode prog_1_method_31_code 4 = .ok (.if_icmp .ge 14, 3) := by decide +kernel
theorem d_Ta_areCloser_7 : decode prog_1_method_31_code 7 = .ok (.iload_n 1, 1) := by decide +kernel
theorem d_Ta_areCloser_8 : decode prog_1_method_31_code 8 = .ok (.iload_n 0, 1) := by decide +kernel
theorem d_Ta_areCloser_9 : decode prog_1_method_31_code 9 = .ok (.isub, 1) := by decide +kernel
theorem d_Ta_areCloser_10 : decode prog_1_method_31_code 10 = .ok (.iload_n 2, 1) := by decide +kernel
theorem d_Ta_areCloser_11 : decode prog_1_method_31_code 11 = .ok (.if_icmp .ge 7, 3) := by decide +kernel
theorem d_Ta_areCloser_14 : decode prog_1_method_31_code 14 = .ok (.iconst 1, 1) := by decide +kernel
theorem d_Ta_areCloser_15 : decode prog_1_method_31_code 15 = .ok (.goto 4, 3) := by decide +kernel
theorem d_Ta_areCloser_18 : decode prog_1_method_31_code 18 = .ok (.iconst 0, 1) := by decide +kernel
theorem d_Ta_areCloser_19 : decode prog_1_method_31_code 19 = .ok (.ireturn, 1) := by decide +kernel
theorem d_Ta_slotNumber_0 : decode prog_1_method_32_code 0 = .ok (.iload_n 0, 1) := by decide +kernel
theorem d_Ta_slotNumber_1 : decode prog_1_method_32_code 1 = .ok (.bipush 15, 2) := by decide +kernel
theorem d_Ta_slotNumber_3 : decode prog_1_method_32_code 3 = .ok (.iand, 1) := by decide +kernel
theorem d_Ta_slotNumber_4 : decode prog_1_method_32_code 4 = .ok (.ireturn, 1) := by decide +kernel
theorem d_Ta_pairOf_0 : decode prog_1_method_33_code 0 = .ok (.iload_n 0, 1) := by decide +kernel
theorem d_Ta_pairOf_1 : decode prog_1_method_33_code 1 = .ok (.bipush 16, 2) := by decide +kernel
theorem d_Ta_pairOf_3 : decode prog_1_method_33_code 3 = .ok (.imul, 1) := by decide +kernel
theorem d_Ta_pairOf_4 : decode prog_1_method_33_code 4 = .ok (.iload_n 1, 1) := by decide +kernel
theorem d_Ta_pairOf_5 : decode prog_1_method_33_code 5 = .ok (.iadd, 1) := by decide +kernel
theorem d_Ta_pairOf_6 : decode prog_1_method_33_code 6 = .ok (.ireturn, 1) := by decide +kernel
theorem d_Ta_firstOf_0 : decode prog_1_method_34_code 0 = .ok (.iload_n 0, 1) := by decide +kernel
theorem d_Ta_firstOf_1 : decode prog_1_method_34_code 1 = .ok (.bipush 16, 2) := by decide +kernel
theorem d_Ta_firstOf_3 : decode prog_1_method_34_code 3 = .ok (.idiv, 1) := by decide +kernel
theorem d_Ta_firstOf_4 : decode prog_1_method_34_code 4 = .ok (.ireturn, 1) := by decide +kernel
theorem d_Ta_secondOf_0 : decode prog_1_method_35_code 0 = .ok (.iload_n 0, 1) := by decide +kernel
theorem d_Ta_secondOf_1 : decode prog_1_method_35_code 1 = .ok (.bipush 16, 2) := by decide +kernel
theorem d_Ta_secondOf_3 : decode prog_1_method_35_code 3 = .ok (.irem, 1) := by decide +kernel
theorem d_Ta_secondOf_4 : decode prog_1_method_35_code 4 = .ok (.ireturn, 1) := by decide +kernel
