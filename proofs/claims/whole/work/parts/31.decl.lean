/-! decode rows (by program: gen_dec.py) -/
theorem d_La_create_0 : decode method_3_code 0 = .ok (.aload_n 3, 1) := by decide +kernel
theorem d_La_create_1 : decode method_3_code 1 = .ok (.iconst 0, 1) := by decide +kernel
theorem d_La_create_2 : decode method_3_code 2 = .ok (.aload_n 0, 1) := by decide +kernel
theorem d_La_create_3 : decode method_3_code 3 = .ok (.iload_n 1, 1) := by decide +kernel
theorem d_La_create_4 : decode method_3_code 4 = .ok (.iload_n 2, 1) := by decide +kernel
theorem d_La_create_5 : decode method_3_code 5 = .ok (.invokevirtual 7, 3) := by decide +kernel
theorem d_La_create_8 : decode method_3_code 8 = .ok (.i2l, 1) := by decide +kernel
theorem d_La_create_9 : decode method_3_code 9 = .ok (.lastore, 1) := by decide +kernel
theorem d_La_create_10 : decode method_3_code 10 = .ok (.goto 15, 3) := by decide +kernel
theorem d_La_create_13 : decode method_3_code 13 = .ok (.astore 4, 2) := by decide +kernel
theorem d_La_create_15 : decode method_3_code 15 = .ok (.iconst 1, 1) := by decide +kernel
theorem d_La_create_16 : decode method_3_code 16 = .ok (.ireturn, 1) := by decide +kernel
theorem d_La_create_17 : decode method_3_code 17 = .ok (.astore 4, 2) := by decide +kernel
theorem d_La_create_19 : decode method_3_code 19 = .ok (.iconst 2, 1) := by decide +kernel
theorem d_La_create_20 : decode method_3_code 20 = .ok (.ireturn, 1) := by decide +kernel
theorem d_La_create_21 : decode method_3_code 21 = .ok (.astore 4, 2) := by decide +kernel
theorem d_La_create_23 : decode method_3_code 23 = .ok (.iconst 3, 1) := by decide +kernel
theorem d_La_create_24 : decode method_3_code 24 = .ok (.ireturn, 1) := by decide +kernel
theorem d_La_create_25 : decode method_3_code 25 = .ok (.iconst 0, 1) := by decide +kernel
theorem d_La_create_26 : decode method_3_code 26 = .ok (.ireturn, 1) := by decide +kernel
theorem d_La_destroy_0 : decode method_4_code 0 = .ok (.aload_n 0, 1) := by decide +kernel
theorem d_La_destroy_1 : decode method_4_code 1 = .ok (.iload_n 1, 1) := by decide +kernel
theorem d_La_destroy_2 : decode method_4_code 2 = .ok (.invokevirtual 19, 3) := by decide +kernel
theorem d_La_destroy_5 : decode method_4_code 5 = .ok (.goto 9, 3) := by decide +kernel
theorem d_La_destroy_8 : decode method_4_code 8 = .ok (.astore_n 2, 1) := by decide +kernel
theorem d_La_destroy_9 : decode method_4_code 9 = .ok (.iconst 1, 1) := by decide +kernel
theorem d_La_destroy_10 : decode method_4_code 10 = .ok (.ireturn, 1) := by decide +kernel
theorem d_La_destroy_11 : decode method_4_code 11 = .ok (.astore_n 2, 1) := by decide +kernel
theorem d_La_destroy_12 : decode method_4_code 12 = .ok (.iconst 2, 1) := by decide +kernel
theorem d_La_destroy_13 : decode method_4_code 13 = .ok (.ireturn, 1) := by decide +kernel
theorem d_La_destroy_14 : decode method_4_code 14 = .ok (.iconst 0, 1) := by decide +kernel
theorem d_La_destroy_15 : decode method_4_code 15 = .ok (.ireturn, 1) := by decide +kernel
theorem d_La_speed_0 : decode method_5_code 0 = .ok (.aload_n 0, 1) := by decide +kernel
theorem d_La_speed_1 : decode method_5_code 1 = .ok (.iload_n 1, 1) := by decide +kernel
theorem d_La_speed_2 : decode method_5_code 2 = .ok (.iload_n 2, 1) := by decide +kernel
theorem d_La_speed_3 : decode method_5_code 3 = .ok (.iload_n 3, 1) := by decide +kernel
theorem d_La_speed_4 : decode method_5_code 4 = .ok (.invokevirtual 23, 3) := by decide +kernel
theorem d_La_speed_7 : decode method_5_code 7 = .ok (.goto 11, 3) := by decide +kernel
theorem d_La_speed_10 : decode method_5_code 10 = .ok (.astore 4, 2) := by decide +kernel
theorem d_La_speed_12 : decode method_5_code 12 = .ok (.iconst 1, 1) := by decide +kernel
theorem d_La_speed_13 : decode method_5_code 13 = .ok (.ireturn, 1) := by decide +kernel
theorem d_La_speed_14 : decode method_5_code 14 = .ok (.astore 4, 2) := by decide +kernel
theorem d_La_speed_16 : decode method_5_code 16 = .ok (.iconst 2, 1) := by decide +kernel
theorem d_La_speed_17 : decode method_5_code 17 = .ok (.ireturn, 1) := by decide +kernel
theorem d_La_speed_18 : decode method_5_code 18 = .ok (.iconst 0, 1) := by decide +kernel
theorem d_La_speed_19 : decode method_5_code 19 = .ok (.ireturn, 1) := by decide +kernel
theorem d_La_shape_0 : decode method_6_code 0 = .ok (.aload_n 0, 1) := by decide +kernel
theorem d_La_shape_1 : decode method_6_code 1 = .ok (.iload_n 1, 1) := by decide +kernel
theorem d_La_shape_2 : decode method_6_code 2 = .ok (.iload_n 2, 1) := by decide +kernel
theorem d_La_shape_3 : decode method_6_code 3 = .ok (.iload_n 3, 1) := by decide +kernel
theorem d_La_shape_4 : decode method_6_code 4 = .ok (.invokevirtual 27, 3) := by decide +kernel
theorem d_La_shape_7 : decode method_6_code 7 = .ok (.goto 11, 3) := by decide +kernel
theorem d_La_shape_10 : decode method_6_code 10 = .ok (.astore 4, 2) := by decide +kernel
theorem d_La_shape_12 : decode method_6_code 12 = .ok (.iconst 1, 1) := by decide +kernel
theorem d_La_shape_13 : decode method_6_code 13 = .ok (.ireturn, 1) := by decide +kernel
theorem d_La_shape_14 : decode method_6_code 14 = .ok (.astore 4, 2) := by decide +kernel
theorem d_La_shape_16 : decode method_6_code 16 = .ok (.iconst 2, 1) := by decide +kernel
theorem d_La_shape_17 : decode method_6_code 17 = .ok (.ireturn, 1) := by decide +kernel
theorem d_La_shape_18 : decode method_6_code 18 = .ok (.iconst 0, 1) := by decide +kernel
theorem d_La_shape_19 : decode method_6_code 19 = .ok (.ireturn, 1) := by decide +kernel
theorem d_La_timer_0 : decode method_7_code 0 = .ok (.aload_n 0, 1) := by decide +kernel
theorem d_La_timer_1 : decode method_7_code 1 = .ok (.iload_n 1, 1) := by decide +kernel
theorem d_La_timer_2 : decode method_7_code 2 = .ok (.iload_n 2, 1) := by decide +kernel
theorem d_La_timer_3 : decode method_7_code 3 = .ok (.invokevirtual 30, 3) := by decide +kernel
theorem d_La_timer_6 : decode method_7_code 6 = .ok (.goto 9, 3) := by decide +kernel
theorem d_La_timer_9 : decode method_7_code 9 = .ok (.astore_n 3, 1) := by decide +kernel
theorem d_La_timer_10 : decode method_7_code 10 = .ok (.iconst 1, 1) := by decide +kernel
theorem d_La_timer_11 : decode method_7_code 11 = .ok (.ireturn, 1) := by decide +kernel
theorem d_La_timer_12 : decode method_7_code 12 = .ok (.astore_n 3, 1) := by decide +kernel
theorem d_La_timer_13 : decode method_7_code 13 = .ok (.iconst 2, 1) := by decide +kernel
theorem d_La_timer_14 : decode method_7_code 14 = .ok (.ireturn, 1) := by decide +kernel
theorem d_La_timer_15 : decode method_7_code 15 = .ok (.iconst 0, 1) := by decide +kernel
theorem d_La_timer_16 : decode method_7_code 16 = .ok (.ireturn, 1) := by decide +kernel
theorem d_La_tick_0 : decode method_8_code 0 = .ok (.aload_n 2, 1) := by decide +kernel
theorem d_La_tick_1 : decode method_8_code 1 = .ok (.iconst 0, 1) := by decide +kernel
theorem d_La_tick_2 : decode method_8_code 2 = .ok (.aload_n 0, 1) := by decide +kernel
theorem d_La_tick_3 : decode method_8_code 3 = .ok (.iload_n 1, 1) := by decide +kernel
theorem d_La_tick_4 : decode method_8_code 4 = .ok (.invokevirtual 34, 3) := by decide +kernel
theorem d_La_tick_7 : decode method_8_code 7 = .ok (.i2l, 1) := by decide +kernel
theorem d_La_tick_8 : decode method_8_code 8 = .ok (.lastore, 1) := by decide +kernel
theorem d_La_tick_9 : decode method_8_code 9 = .ok (.goto 9, 3) := by decide +kernel
theorem d_La_tick_12 : decode method_8_code 12 = .ok (.astore_n 3, 1) := by decide +kernel
theorem d_La_tick_13 : decode method_8_code 13 = .ok (.iconst 1, 1) := by decide +kernel
theorem d_La_tick_14 : decode method_8_code 14 = .ok (.ireturn, 1) := by decide +kernel
theorem d_La_tick_15 : decode method_8_code 15 = .ok (.astore_n 3, 1) := by decide +kernel
theorem d_La_tick_16 : decode method_8_code 16 = .ok (.iconst 2, 1) := by decide +kernel
theorem d_La_tick_17 : decode method_8_code 17 = .ok (.ireturn, 1) := by decide +kernel
theorem d_La_tick_18 : decode method_8_code 18 = .ok (.iconst 0, 1) := by decide +kernel
theorem d_La_tick_19 : decode method_8_code 19 = .ok (.ireturn, 1) := by decide +kernel
theorem d_La_event_0 : decode method_9_code 0 = .ok (.aload_n 3, 1) := by decide +kernel
theorem d_La_event_1 : decode method_9_code 1 = .ok (.iconst 0, 1) := by decide +kernel
theorem d_La_event_2 : decode method_9_code 2 = .ok (.aload_n 0, 1) := by decide +kernel
theorem d_La_event_3 : decode method_9_code 3 = .ok (.iload_n 1, 1) := by decide +kernel
theorem d_La_event_4 : decode method_9_code 4 = .ok (.iload_n 2, 1) := by decide +kernel
theorem d_La_event_5 : decode method_9_code 5 = .ok (.invokevirtual 38, 3) := by decide +kernel
theorem d_La_event_8 : decode method_9_code 8 = .ok (.i2l, 1) := by decide +kernel
theorem d_La_event_9 : decode method_9_code 9 = .ok (.lastore, 1) := by decide +kernel
theorem d_La_event_10 : decode method_9_code 10 = .ok (.goto 11, 3) := by decide +kernel
theorem d_La_event_13 : decode method_9_code 13 = .ok (.astore 4, 2) := by decide +kernel
theorem d_La_event_15 : decode method_9_code 15 = .ok (.iconst 1, 1) := by decide +kernel
theorem d_La_event_16 : decode method_9_code 16 = .ok (.ireturn, 1) := by decide +kernel
theorem d_La_event_17 : decode method_9_code 17 = .ok (.astore 4, 2) := by decide +kernel
theorem d_La_event_19 : decode method_9_code 19 = .ok (.iconst 2, 1) := by decide +kernel
theorem d_La_event_20 : decode method_9_code 20 = .ok (.ireturn, 1) := by decide +kernel
theorem d_La_event_21 : decode method_9_code 21 = .ok (.iconst 0, 1) := by decide +kernel
theorem d_La_event_22 : decode method_9_code 22 = .ok (.ireturn, 1) := by decide +kernel
theorem d_La_about_0 : decode method_10_code 0 = .ok (.aload_n 3, 1) := by decide +kernel
theorem d_La_about_1 : decode method_10_code 1 = .ok (.iconst 0, 1) := by decide +kernel
theorem d_La_about_2 : decode method_10_code 2 = .ok (.aload_n 0, 1) := by decide +kernel
theorem d_La_about_3 : decode method_10_code 3 = .ok (.iload_n 1, 1) := by decide +kernel
theorem d_La_about_4 : decode method_10_code 4 = .ok (.iload_n 2, 1) := by decide +kernel
theorem d_La_about_5 : decode method_10_code 5 = .ok (.invokevirtual 43, 3) := by decide +kernel
theorem d_La_about_8 : decode method_10_code 8 = .ok (.i2l, 1) := by decide +kernel
theorem d_La_about_9 : decode method_10_code 9 = .ok (.lastore, 1) := by decide +kernel
theorem d_La_about_10 : decode method_10_code 10 = .ok (.goto 11, 3) := by decide +kernel
theorem d_La_about_13 : decode method_10_code 13 = .ok (.astore 4, 2) := by decide +kernel
theorem d_La_about_15 : decode method_10_code 15 = .ok (.iconst 1, 1) := by decide +kernel
theorem d_La_about_16 : decode method_10_code 16 = .ok (.ireturn, 1) := by decide +kernel
theorem d_La_about_17 : decode method_10_code 17 = .ok (.astore 4, 2) := by decide +kernel
theorem d_La_about_19 : decode method_10_code 19 = .ok (.iconst 2, 1) := by decide +kernel
theorem d_La_about_20 : decode method_10_code 20 = .ok (.ireturn, 1) := by decide +kernel
theorem d_La_about_21 : decode method_10_code 21 = .ok (.iconst 0, 1) := by decide +kernel
theorem d_La_about_22 : decode method_10_code 22 = .ok (.ireturn, 1) := by decide +kernel
theorem d_La_handleOf_0 : decode method_11_code 0 = .ok (.aload_n 2, 1) := by decide +kernel
theorem d_La_handleOf_1 : decode method_11_code 1 = .ok (.iconst 0, 1) := by decide +kernel
theorem d_La_handleOf_2 : decode method_11_code 2 = .ok (.aload_n 0, 1) := by decide +kernel
theorem d_La_handleOf_3 : decode method_11_code 3 = .ok (.iload_n 1, 1) := by decide +kernel
theorem d_La_handleOf_4 : decode method_11_code 4 = .ok (.invokevirtual 46, 3) := by decide +kernel
theorem d_La_handleOf_7 : decode method_11_code 7 = .ok (.i2l, 1) := by decide +kernel
theorem d_La_handleOf_8 : decode method_11_code 8 = .ok (.lastore, 1) := by decide +kernel
theorem d_La_handleOf_9 : decode method_11_code 9 = .ok (.goto 6, 3) := by decide +kernel
theorem d_La_handleOf_12 : decode method_11_code 12 = .ok (.astore_n 3, 1) := by decide +kernel
theorem d_La_handleOf_13 : decode method_11_code 13 = .ok (.iconst 1, 1) := by decide +kernel
theorem d_La_handleOf_14 : decode method_11_code 14 = .ok (.ireturn, 1) := by decide +kernel
theorem d_La_handleOf_15 : decode method_11_code 15 = .ok (.iconst 0, 1) := by decide +kernel
theorem d_La_handleOf_16 : decode method_11_code 16 = .ok (.ireturn, 1) := by decide +kernel
theorem d_La_under_0 : decode method_12_code 0 = .ok (.aload_n 3, 1) := by decide +kernel
theorem d_La_under_1 : decode method_12_code 1 = .ok (.iconst 0, 1) := by decide +kernel
theorem d_La_under_2 : decode method_12_code 2 = .ok (.aload_n 0, 1) := by decide +kernel
theorem d_La_under_3 : decode method_12_code 3 = .ok (.iload_n 1, 1) := by decide +kernel
theorem d_La_under_4 : decode method_12_code 4 = .ok (.iload_n 2, 1) := by decide +kernel
theorem d_La_under_5 : decode method_12_code 5 = .ok (.invokevirtual 49, 3) := by decide +kernel
theorem d_La_under_8 : decode method_12_code 8 = .ok (.i2l, 1) := by decide +kernel
theorem d_La_under_9 : decode method_12_code 9 = .ok (.lastore, 1) := by decide +kernel
theorem d_La_under_10 : decode method_12_code 10 = .ok (.goto 7, 3) := by decide +kernel
theorem d_La_under_13 : decode method_12_code 13 = .ok (.astore 4, 2) := by decide +kernel
theorem d_La_under_15 : decode method_12_code 15 = .ok (.iconst 1, 1) := by decide +kernel
theorem d_La_under_16 : decode method_12_code 16 = .ok (.ireturn, 1) := by decide +kernel
theorem d_La_under_17 : decode method_12_code 17 = .ok (.iconst 0, 1) := by decide +kernel
theorem d_La_under_18 : decode method_12_code 18 = .ok (.ireturn, 1) := by decide +kernel
theorem d_La_load_0 : decode method_13_code 0 = .ok (.aload_n 0, 1) := by decide +kernel
theorem d_La_load_1 : decode method_13_code 1 = .ok (.invokevirtual 52, 3) := by decide +kernel
theorem d_La_load_4 : decode method_13_code 4 = .ok (.goto 6, 3) := by decide +kernel
theorem d_La_load_7 : decode method_13_code 7 = .ok (.astore_n 1, 1) := by decide +kernel
theorem d_La_load_8 : decode method_13_code 8 = .ok (.iconst 1, 1) := by decide +kernel
theorem d_La_load_9 : decode method_13_code 9 = .ok (.ireturn, 1) := by decide +kernel
theorem d_La_load_10 : decode method_13_code 10 = .ok (.iconst 0, 1) := by decide +kernel
theorem d_La_load_11 : decode method_13_code 11 = .ok (.ireturn, 1) := by decide +kernel
theorem d_La_replay_0 : decode method_14_code 0 = .ok (.aload_n 1, 1) := by decide +kernel
theorem d_La_replay_1 : decode method_14_code 1 = .ok (.iconst 0, 1) := by decide +kernel
theorem d_La_replay_2 : decode method_14_code 2 = .ok (.aload_n 0, 1) := by decide +kernel
theorem d_La_replay_3 : decode method_14_code 3 = .ok (.invokevirtual 55, 3) := by decide +kernel
theorem d_La_replay_6 : decode method_14_code 6 = .ok (.i2l, 1) := by decide +kernel
theorem d_La_replay_7 : decode method_14_code 7 = .ok (.lastore, 1) := by decide +kernel
theorem d_La_replay_8 : decode method_14_code 8 = .ok (.goto 6, 3) := by decide +kernel
theorem d_La_replay_11 : decode method_14_code 11 = .ok (.astore_n 2, 1) := by decide +kernel
theorem d_La_replay_12 : decode method_14_code 12 = .ok (.iconst 1, 1) := by decide +kernel
theorem d_La_replay_13 : decode method_14_code 13 = .ok (.ireturn, 1) := by decide +kernel
theorem d_La_replay_14 : decode method_14_code 14 = .ok (.iconst 0, 1) := by decide +kernel
theorem d_La_replay_15 : decode method_14_code 15 = .ok (.ireturn, 1) := by decide +kernel
theorem d_La_at_0 : decode method_15_code 0 = .ok (.aload_n 3, 1) := by decide +kernel
theorem d_La_at_1 : decode method_15_code 1 = .ok (.iconst 0, 1) := by decide +kernel
theorem d_La_at_2 : decode method_15_code 2 = .ok (.aload_n 0, 1) := by decide +kernel
theorem d_La_at_3 : decode method_15_code 3 = .ok (.iload_n 1, 1) := by decide +kernel
theorem d_La_at_4 : decode method_15_code 4 = .ok (.iload_n 2, 1) := by decide +kernel
theorem d_La_at_5 : decode method_15_code 5 = .ok (.invokevirtual 59, 3) := by decide +kernel
theorem d_La_at_8 : decode method_15_code 8 = .ok (.i2l, 1) := by decide +kernel
theorem d_La_at_9 : decode method_15_code 9 = .ok (.lastore, 1) := by decide +kernel
theorem d_La_at_10 : decode method_15_code 10 = .ok (.goto 7, 3) := by decide +kernel
theorem d_La_at_13 : decode method_15_code 13 = .ok (.astore 4, 2) := by decide +kernel
theorem d_La_at_15 : decode method_15_code 15 = .ok (.iconst 1, 1) := by decide +kernel
theorem d_La_at_16 : decode method_15_code 16 = .ok (.ireturn, 1) := by decide +kernel
theorem d_La_at_17 : decode method_15_code 17 = .ok (.iconst 0, 1) := by decide +kernel
theorem d_La_at_18 : decode method_15_code 18 = .ok (.ireturn, 1) := by decide +kernel
theorem d_La_corrupt_0 : decode method_16_code 0 = .ok (.aload_n 0, 1) := by decide +kernel
theorem d_La_corrupt_1 : decode method_16_code 1 = .ok (.iload_n 1, 1) := by decide +kernel
theorem d_La_corrupt_2 : decode method_16_code 2 = .ok (.iload_n 2, 1) := by decide +kernel
theorem d_La_corrupt_3 : decode method_16_code 3 = .ok (.iload_n 3, 1) := by decide +kernel
theorem d_La_corrupt_4 : decode method_16_code 4 = .ok (.invokevirtual 63, 3) := by decide +kernel
theorem d_La_corrupt_7 : decode method_16_code 7 = .ok (.goto 11, 3) := by decide +kernel
theorem d_La_corrupt_10 : decode method_16_code 10 = .ok (.astore 4, 2) := by decide +kernel
theorem d_La_corrupt_12 : decode method_16_code 12 = .ok (.iconst 1, 1) := by decide +kernel
theorem d_La_corrupt_13 : decode method_16_code 13 = .ok (.ireturn, 1) := by decide +kernel
theorem d_La_corrupt_14 : decode method_16_code 14 = .ok (.astore 4, 2) := by decide +kernel
theorem d_La_corrupt_16 : decode method_16_code 16 = .ok (.iconst 2, 1) := by decide +kernel
theorem d_La_corrupt_17 : decode method_16_code 17 = .ok (.ireturn, 1) := by decide +kernel
theorem d_La_corrupt_18 : decode method_16_code 18 = .ok (.iconst 0, 1) := by decide +kernel
theorem d_La_corrupt_19 : decode method_16_code 19 = .ok (.ireturn, 1) := by decide +kernel
