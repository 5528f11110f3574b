/-! decode rows (by program: gen_dec.py) -/
theorem d_By_init_0 : decode prog_2_method_1_code 0 = .ok (.aload_n 0, 1) := by decide +kernel
theorem d_By_init_1 : decode prog_2_method_1_code 1 = .ok (.invokespecial 3, 3) := by decide +kernel
theorem d_By_init_4 : decode prog_2_method_1_code 4 = .ok (.aload_n 0, 1) := by decide +kernel
theorem d_By_init_5 : decode prog_2_method_1_code 5 = .ok (.iload_n 1, 1) := by decide +kernel
theorem d_By_init_6 : decode prog_2_method_1_code 6 = .ok (.newarray .int, 2) := by decide +kernel
theorem d_By_init_8 : decode prog_2_method_1_code 8 = .ok (.putfield 9, 3) := by decide +kernel
theorem d_By_init_11 : decode prog_2_method_1_code 11 = .ok (.return_, 1) := by decide +kernel
theorem d_By_clear_0 : decode prog_2_method_2_code 0 = .ok (.aload_n 0, 1) := by decide +kernel
theorem d_By_clear_1 : decode prog_2_method_2_code 1 = .ok (.iconst 0, 1) := by decide +kernel
theorem d_By_clear_2 : decode prog_2_method_2_code 2 = .ok (.putfield 15, 3) := by decide +kernel
theorem d_By_clear_5 : decode prog_2_method_2_code 5 = .ok (.return_, 1) := by decide +kernel
theorem d_By_has_0 : decode prog_2_method_3_code 0 = .ok (.iload_n 1, 1) := by decide +kernel
theorem d_By_has_1 : decode prog_2_method_3_code 1 = .ok (.ifCond .lt 15, 3) := by decide +kernel
theorem d_By_has_4 : decode prog_2_method_3_code 4 = .ok (.iload_n 1, 1) := by decide +kernel
theorem d_By_has_5 : decode prog_2_method_3_code 5 = .ok (.aload_n 0, 1) := by decide +kernel
theorem d_By_has_6 : decode prog_2_method_3_code 6 = .ok (.getfield 15, 3) := by decide +kernel
theorem d_By_has_9 : decode prog_2_method_3_code 9 = .ok (.if_icmp .ge 7, 3) := by decide +kernel
theorem d_By_has_12 : decode prog_2_method_3_code 12 = .ok (.iconst 1, 1) := by decide +kernel
theorem d_By_has_13 : decode prog_2_method_3_code 13 = .ok (.goto 4, 3) := by decide +kernel
theorem d_By_has_16 : decode prog_2_method_3_code 16 = .ok (.iconst 0, 1) := by decide +kernel
theorem d_By_has_17 : decode prog_2_method_3_code 17 = .ok (.ireturn, 1) := by decide +kernel
theorem d_By_hasRoom_0 : decode prog_2_method_4_code 0 = .ok (.iload_n 1, 1) := by decide +kernel
theorem d_By_hasRoom_1 : decode prog_2_method_4_code 1 = .ok (.aload_n 0, 1) := by decide +kernel
theorem d_By_hasRoom_2 : decode prog_2_method_4_code 2 = .ok (.getfield 9, 3) := by decide +kernel
theorem d_By_hasRoom_5 : decode prog_2_method_4_code 5 = .ok (.arraylength, 1) := by decide +kernel
theorem d_By_hasRoom_6 : decode prog_2_method_4_code 6 = .ok (.aload_n 0, 1) := by decide +kernel
theorem d_By_hasRoom_7 : decode prog_2_method_4_code 7 = .ok (.getfield 15, 3) := by decide +kernel
theorem d_By_hasRoom_10 : decode prog_2_method_4_code 10 = .ok (.isub, 1) := by decide +kernel
theorem d_By_hasRoom_11 : decode prog_2_method_4_code 11 = .ok (.if_icmp .gt 7, 3) := by decide +kernel
theorem d_By_hasRoom_14 : decode prog_2_method_4_code 14 = .ok (.iconst 1, 1) := by decide +kernel
theorem d_By_hasRoom_15 : decode prog_2_method_4_code 15 = .ok (.goto 4, 3) := by decide +kernel
theorem d_By_hasRoom_18 : decode prog_2_method_4_code 18 = .ok (.iconst 0, 1) := by decide +kernel
theorem d_By_hasRoom_19 : decode prog_2_method_4_code 19 = .ok (.ireturn, 1) := by decide +kernel
theorem d_By_add_0 : decode prog_2_method_5_code 0 = .ok (.bipush 8, 2) := by decide +kernel
theorem d_By_add_2 : decode prog_2_method_5_code 2 = .ok (.iload_n 2, 1) := by decide +kernel
theorem d_By_add_3 : decode prog_2_method_5_code 3 = .ok (.iconst 1, 1) := by decide +kernel
theorem d_By_add_4 : decode prog_2_method_5_code 4 = .ok (.isub, 1) := by decide +kernel
theorem d_By_add_5 : decode prog_2_method_5_code 5 = .ok (.imul, 1) := by decide +kernel
theorem d_By_add_6 : decode prog_2_method_5_code 6 = .ok (.istore_n 3, 1) := by decide +kernel
theorem d_By_add_7 : decode prog_2_method_5_code 7 = .ok (.iload_n 3, 1) := by decide +kernel
theorem d_By_add_8 : decode prog_2_method_5_code 8 = .ok (.ifCond .lt 43, 3) := by decide +kernel
theorem d_By_add_11 : decode prog_2_method_5_code 11 = .ok (.aload_n 0, 1) := by decide +kernel
theorem d_By_add_12 : decode prog_2_method_5_code 12 = .ok (.iconst 1, 1) := by decide +kernel
theorem d_By_add_13 : decode prog_2_method_5_code 13 = .ok (.invokevirtual 19, 3) := by decide +kernel
theorem d_By_add_16 : decode prog_2_method_5_code 16 = .ok (.ifCond .eq 29, 3) := by decide +kernel
theorem d_By_add_19 : decode prog_2_method_5_code 19 = .ok (.aload_n 0, 1) := by decide +kernel
theorem d_By_add_20 : decode prog_2_method_5_code 20 = .ok (.getfield 9, 3) := by decide +kernel
theorem d_By_add_23 : decode prog_2_method_5_code 23 = .ok (.aload_n 0, 1) := by decide +kernel
theorem d_By_add_24 : decode prog_2_method_5_code 24 = .ok (.getfield 15, 3) := by decide +kernel
theorem d_By_add_27 : decode prog_2_method_5_code 27 = .ok (.iload_n 1, 1) := by decide +kernel
theorem d_By_add_28 : decode prog_2_method_5_code 28 = .ok (.iload_n 3, 1) := by decide +kernel
theorem d_By_add_29 : decode prog_2_method_5_code 29 = .ok (.ishr, 1) := by decide +kernel
theorem d_By_add_30 : decode prog_2_method_5_code 30 = .ok (.sipush 255, 3) := by decide +kernel
theorem d_By_add_33 : decode prog_2_method_5_code 33 = .ok (.iand, 1) := by decide +kernel
theorem d_By_add_34 : decode prog_2_method_5_code 34 = .ok (.iastore, 1) := by decide +kernel
theorem d_By_add_35 : decode prog_2_method_5_code 35 = .ok (.aload_n 0, 1) := by decide +kernel
theorem d_By_add_36 : decode prog_2_method_5_code 36 = .ok (.dup, 1) := by decide +kernel
theorem d_By_add_37 : decode prog_2_method_5_code 37 = .ok (.getfield 15, 3) := by decide +kernel
theorem d_By_add_40 : decode prog_2_method_5_code 40 = .ok (.iconst 1, 1) := by decide +kernel
theorem d_By_add_41 : decode prog_2_method_5_code 41 = .ok (.iadd, 1) := by decide +kernel
theorem d_By_add_42 : decode prog_2_method_5_code 42 = .ok (.putfield 15, 3) := by decide +kernel
theorem d_By_add_45 : decode prog_2_method_5_code 45 = .ok (.iinc 3 (-8), 3) := by decide +kernel
theorem d_By_add_48 : decode prog_2_method_5_code 48 = .ok (.goto (-41), 3) := by decide +kernel
theorem d_By_add_51 : decode prog_2_method_5_code 51 = .ok (.return_, 1) := by decide +kernel
theorem d_By_next_0 : decode prog_2_method_6_code 0 = .ok (.iconst 0, 1) := by decide +kernel
theorem d_By_next_1 : decode prog_2_method_6_code 1 = .ok (.istore_n 2, 1) := by decide +kernel
theorem d_By_next_2 : decode prog_2_method_6_code 2 = .ok (.iconst 0, 1) := by decide +kernel
theorem d_By_next_3 : decode prog_2_method_6_code 3 = .ok (.istore_n 3, 1) := by decide +kernel
theorem d_By_next_4 : decode prog_2_method_6_code 4 = .ok (.iload_n 3, 1) := by decide +kernel
theorem d_By_next_5 : decode prog_2_method_6_code 5 = .ok (.iload_n 1, 1) := by decide +kernel
theorem d_By_next_6 : decode prog_2_method_6_code 6 = .ok (.if_icmp .ge 47, 3) := by decide +kernel
theorem d_By_next_9 : decode prog_2_method_6_code 9 = .ok (.aload_n 0, 1) := by decide +kernel
theorem d_By_next_10 : decode prog_2_method_6_code 10 = .ok (.aload_n 0, 1) := by decide +kernel
theorem d_By_next_11 : decode prog_2_method_6_code 11 = .ok (.getfield 23, 3) := by decide +kernel
theorem d_By_next_14 : decode prog_2_method_6_code 14 = .ok (.invokevirtual 26, 3) := by decide +kernel
theorem d_By_next_17 : decode prog_2_method_6_code 17 = .ok (.ifCond .ne 5, 3) := by decide +kernel
theorem d_By_next_20 : decode prog_2_method_6_code 20 = .ok (.iconst (-1), 1) := by decide +kernel
theorem d_By_next_21 : decode prog_2_method_6_code 21 = .ok (.ireturn, 1) := by decide +kernel
theorem d_By_next_22 : decode prog_2_method_6_code 22 = .ok (.iload_n 2, 1) := by decide +kernel
theorem d_By_next_23 : decode prog_2_method_6_code 23 = .ok (.bipush 8, 2) := by decide +kernel
theorem d_By_next_25 : decode prog_2_method_6_code 25 = .ok (.ishl, 1) := by decide +kernel
theorem d_By_next_26 : decode prog_2_method_6_code 26 = .ok (.aload_n 0, 1) := by decide +kernel
theorem d_By_next_27 : decode prog_2_method_6_code 27 = .ok (.getfield 9, 3) := by decide +kernel
theorem d_By_next_30 : decode prog_2_method_6_code 30 = .ok (.aload_n 0, 1) := by decide +kernel
theorem d_By_next_31 : decode prog_2_method_6_code 31 = .ok (.getfield 23, 3) := by decide +kernel
theorem d_By_next_34 : decode prog_2_method_6_code 34 = .ok (.iaload, 1) := by decide +kernel
theorem d_By_next_35 : decode prog_2_method_6_code 35 = .ok (.ior, 1) := by decide +kernel
theorem d_By_next_36 : decode prog_2_method_6_code 36 = .ok (.istore_n 2, 1) := by decide +kernel
theorem d_By_next_37 : decode prog_2_method_6_code 37 = .ok (.aload_n 0, 1) := by decide +kernel
theorem d_By_next_38 : decode prog_2_method_6_code 38 = .ok (.dup, 1) := by decide +kernel
theorem d_By_next_39 : decode prog_2_method_6_code 39 = .ok (.getfield 23, 3) := by decide +kernel
theorem d_By_next_42 : decode prog_2_method_6_code 42 = .ok (.iconst 1, 1) := by decide +kernel
theorem d_By_next_43 : decode prog_2_method_6_code 43 = .ok (.iadd, 1) := by decide +kernel
theorem d_By_next_44 : decode prog_2_method_6_code 44 = .ok (.putfield 23, 3) := by decide +kernel
theorem d_By_next_47 : decode prog_2_method_6_code 47 = .ok (.iinc 3 1, 3) := by decide +kernel
theorem d_By_next_50 : decode prog_2_method_6_code 50 = .ok (.goto (-46), 3) := by decide +kernel
theorem d_By_next_53 : decode prog_2_method_6_code 53 = .ok (.iload_n 2, 1) := by decide +kernel
theorem d_By_next_54 : decode prog_2_method_6_code 54 = .ok (.ireturn, 1) := by decide +kernel
theorem d_By_isAtEnd_0 : decode prog_2_method_7_code 0 = .ok (.aload_n 0, 1) := by decide +kernel
theorem d_By_isAtEnd_1 : decode prog_2_method_7_code 1 = .ok (.getfield 23, 3) := by decide +kernel
theorem d_By_isAtEnd_4 : decode prog_2_method_7_code 4 = .ok (.aload_n 0, 1) := by decide +kernel
theorem d_By_isAtEnd_5 : decode prog_2_method_7_code 5 = .ok (.getfield 15, 3) := by decide +kernel
theorem d_By_isAtEnd_8 : decode prog_2_method_7_code 8 = .ok (.if_icmp .lt 7, 3) := by decide +kernel
theorem d_By_isAtEnd_11 : decode prog_2_method_7_code 11 = .ok (.iconst 1, 1) := by decide +kernel
theorem d_By_isAtEnd_12 : decode prog_2_method_7_code 12 = .ok (.goto 4, 3) := by decide +kernel
theorem d_By_isAtEnd_15 : decode prog_2_method_7_code 15 = .ok (.iconst 0, 1) := by decide +kernel
theorem d_By_isAtEnd_16 : decode prog_2_method_7_code 16 = .ok (.ireturn, 1) := by decide +kernel
theorem d_By_checkOfFirst_0 : decode prog_2_method_8_code 0 = .ok (.iconst 1, 1) := by decide +kernel
theorem d_By_checkOfFirst_1 : decode prog_2_method_8_code 1 = .ok (.istore_n 2, 1) := by decide +kernel
theorem d_By_checkOfFirst_2 : decode prog_2_method_8_code 2 = .ok (.iconst 0, 1) := by decide +kernel
theorem d_By_checkOfFirst_3 : decode prog_2_method_8_code 3 = .ok (.istore_n 3, 1) := by decide +kernel
theorem d_By_checkOfFirst_4 : decode prog_2_method_8_code 4 = .ok (.iconst 0, 1) := by decide +kernel
theorem d_By_checkOfFirst_5 : decode prog_2_method_8_code 5 = .ok (.istore 4, 2) := by decide +kernel
theorem d_By_checkOfFirst_7 : decode prog_2_method_8_code 7 = .ok (.iload 4, 2) := by decide +kernel
theorem d_By_checkOfFirst_9 : decode prog_2_method_8_code 9 = .ok (.iload_n 1, 1) := by decide +kernel
theorem d_By_checkOfFirst_10 : decode prog_2_method_8_code 10 = .ok (.if_icmp .ge 40, 3) := by decide +kernel
theorem d_By_checkOfFirst_13 : decode prog_2_method_8_code 13 = .ok (.iload 4, 2) := by decide +kernel
theorem d_By_checkOfFirst_15 : decode prog_2_method_8_code 15 = .ok (.aload_n 0, 1) := by decide +kernel
theorem d_By_checkOfFirst_16 : decode prog_2_method_8_code 16 = .ok (.getfield 15, 3) := by decide +kernel
theorem d_By_checkOfFirst_19 : decode prog_2_method_8_code 19 = .ok (.if_icmp .ge 31, 3) := by decide +kernel
theorem d_By_checkOfFirst_22 : decode prog_2_method_8_code 22 = .ok (.iload_n 2, 1) := by decide +kernel
theorem d_By_checkOfFirst_23 : decode prog_2_method_8_code 23 = .ok (.aload_n 0, 1) := by decide +kernel
theorem d_By_checkOfFirst_24 : decode prog_2_method_8_code 24 = .ok (.getfield 9, 3) := by decide +kernel
theorem d_By_checkOfFirst_27 : decode prog_2_method_8_code 27 = .ok (.iload 4, 2) := by decide +kernel
theorem d_By_checkOfFirst_29 : decode prog_2_method_8_code 29 = .ok (.iaload, 1) := by decide +kernel
theorem d_By_checkOfFirst_30 : decode prog_2_method_8_code 30 = .ok (.iadd, 1) := by decide +kernel
theorem d_By_checkOfFirst_31 : decode prog_2_method_8_code 31 = .ok (.sipush 251, 3) := by decide +kernel
theorem d_By_checkOfFirst_34 : decode prog_2_method_8_code 34 = .ok (.irem, 1) := by decide +kernel
theorem d_By_checkOfFirst_35 : decode prog_2_method_8_code 35 = .ok (.istore_n 2, 1) := by decide +kernel
theorem d_By_checkOfFirst_36 : decode prog_2_method_8_code 36 = .ok (.iload_n 3, 1) := by decide +kernel
theorem d_By_checkOfFirst_37 : decode prog_2_method_8_code 37 = .ok (.iload_n 2, 1) := by decide +kernel
theorem d_By_checkOfFirst_38 : decode prog_2_method_8_code 38 = .ok (.iadd, 1) := by decide +kernel
theorem d_By_checkOfFirst_39 : decode prog_2_method_8_code 39 = .ok (.sipush 251, 3) := by decide +kernel
theorem d_By_checkOfFirst_42 : decode prog_2_method_8_code 42 = .ok (.irem, 1) := by decide +kernel
theorem d_By_checkOfFirst_43 : decode prog_2_method_8_code 43 = .ok (.istore_n 3, 1) := by decide +kernel
theorem d_By_checkOfFirst_44 : decode prog_2_method_8_code 44 = .ok (.iinc 4 1, 3) := by decide +kernel
theorem d_By_checkOfFirst_47 : decode prog_2_method_8_code 47 = .ok (.goto (-40), 3) := by decide +kernel
theorem d_By_checkOfFirst_50 : decode prog_2_method_8_code 50 = .ok (.iload_n 3, 1) := by decide +kernel
theorem d_By_checkOfFirst_51 : decode prog_2_method_8_code 51 = .ok (.bipush 8, 2) := by decide +kernel
theorem d_By_checkOfFirst_53 : decode prog_2_method_8_code 53 = .ok (.ishl, 1) := by decide +kernel
theorem d_By_checkOfFirst_54 : decode prog_2_method_8_code 54 = .ok (.iload_n 2, 1) := by decide +kernel
theorem d_By_checkOfFirst_55 : decode prog_2_method_8_code 55 = .ok (.ior, 1) := by decide +kernel
theorem d_By_checkOfFirst_56 : decode prog_2_method_8_code 56 = .ok (.ireturn, 1) := by decide +kernel
theorem d_Ev_init_0 : decode prog_3_method_1_code 0 = .ok (.aload_n 0, 1) := by decide +kernel
theorem d_Ev_init_1 : decode prog_3_method_1_code 1 = .ok (.invokespecial 3, 3) := by decide +kernel
theorem d_Ev_init_4 : decode prog_3_method_1_code 4 = .ok (.aload_n 0, 1) := by decide +kernel
theorem d_Ev_init_5 : decode prog_3_method_1_code 5 = .ok (.bipush 120, 2) := by decide +kernel
theorem d_Ev_init_7 : decode prog_3_method_1_code 7 = .ok (.newarray .int, 2) := by decide +kernel
theorem d_Ev_init_9 : decode prog_3_method_1_code 9 = .ok (.putfield 9, 3) := by decide +kernel
theorem d_Ev_init_12 : decode prog_3_method_1_code 12 = .ok (.aload_n 0, 1) := by decide +kernel
theorem d_Ev_init_13 : decode prog_3_method_1_code 13 = .ok (.bipush 120, 2) := by decide +kernel
theorem d_Ev_init_15 : decode prog_3_method_1_code 15 = .ok (.newarray .int, 2) := by decide +kernel
theorem d_Ev_init_17 : decode prog_3_method_1_code 17 = .ok (.putfield 15, 3) := by decide +kernel
theorem d_Ev_init_20 : decode prog_3_method_1_code 20 = .ok (.return_, 1) := by decide +kernel
theorem d_Ev_clear_0 : decode prog_3_method_2_code 0 = .ok (.aload_n 0, 1) := by decide +kernel
theorem d_Ev_clear_1 : decode prog_3_method_2_code 1 = .ok (.iconst 0, 1) := by decide +kernel
theorem d_Ev_clear_2 : decode prog_3_method_2_code 2 = .ok (.putfield 18, 3) := by decide +kernel
theorem d_Ev_clear_5 : decode prog_3_method_2_code 5 = .ok (.return_, 1) := by decide +kernel
theorem d_Ev_has_0 : decode prog_3_method_3_code 0 = .ok (.iload_n 1, 1) := by decide +kernel
theorem d_Ev_has_1 : decode prog_3_method_3_code 1 = .ok (.ifCond .lt 15, 3) := by decide +kernel
theorem d_Ev_has_4 : decode prog_3_method_3_code 4 = .ok (.iload_n 1, 1) := by decide +kernel
theorem d_Ev_has_5 : decode prog_3_method_3_code 5 = .ok (.aload_n 0, 1) := by decide +kernel
theorem d_Ev_has_6 : decode prog_3_method_3_code 6 = .ok (.getfield 18, 3) := by decide +kernel
theorem d_Ev_has_9 : decode prog_3_method_3_code 9 = .ok (.if_icmp .ge 7, 3) := by decide +kernel
theorem d_Ev_has_12 : decode prog_3_method_3_code 12 = .ok (.iconst 1, 1) := by decide +kernel
theorem d_Ev_has_13 : decode prog_3_method_3_code 13 = .ok (.goto 4, 3) := by decide +kernel
theorem d_Ev_has_16 : decode prog_3_method_3_code 16 = .ok (.iconst 0, 1) := by decide +kernel
theorem d_Ev_has_17 : decode prog_3_method_3_code 17 = .ok (.ireturn, 1) := by decide +kernel
theorem d_Ev_add_0 : decode prog_3_method_4_code 0 = .ok (.aload_n 0, 1) := by decide +kernel
theorem d_Ev_add_1 : decode prog_3_method_4_code 1 = .ok (.getfield 18, 3) := by decide +kernel
theorem d_Ev_add_4 : decode prog_3_method_4_code 4 = .ok (.bipush 120, 2) := by decide +kernel
theorem d_Ev_add_6 : decode prog_3_method_4_code 6 = .ok (.if_icmp .ge 33, 3) := by decide +kernel
theorem d_Ev_add_9 : decode prog_3_method_4_code 9 = .ok (.aload_n 0, 1) := by decide +kernel
theorem d_Ev_add_10 : decode prog_3_method_4_code 10 = .ok (.getfield 9, 3) := by decide +kernel
theorem d_Ev_add_13 : decode prog_3_method_4_code 13 = .ok (.aload_n 0, 1) := by decide +kernel
theorem d_Ev_add_14 : decode prog_3_method_4_code 14 = .ok (.getfield 18, 3) := by decide +kernel
theorem d_Ev_add_17 : decode prog_3_method_4_code 17 = .ok (.iload_n 1, 1) := by decide +kernel
theorem d_Ev_add_18 : decode prog_3_method_4_code 18 = .ok (.iastore, 1) := by decide +kernel
theorem d_Ev_add_19 : decode prog_3_method_4_code 19 = .ok (.aload_n 0, 1) := by decide +kernel
theorem d_Ev_add_20 : decode prog_3_method_4_code 20 = .ok (.getfield 15, 3) := by decide +kernel
theorem d_Ev_add_23 : decode prog_3_method_4_code 23 = .ok (.aload_n 0, 1) := by decide +kernel
theorem d_Ev_add_24 : decode prog_3_method_4_code 24 = .ok (.getfield 18, 3) := by decide +kernel
theorem d_Ev_add_27 : decode prog_3_method_4_code 27 = .ok (.iload_n 2, 1) := by decide +kernel
theorem d_Ev_add_28 : decode prog_3_method_4_code 28 = .ok (.iastore, 1) := by decide +kernel
theorem d_Ev_add_29 : decode prog_3_method_4_code 29 = .ok (.aload_n 0, 1) := by decide +kernel
theorem d_Ev_add_30 : decode prog_3_method_4_code 30 = .ok (.dup, 1) := by decide +kernel
theorem d_Ev_add_31 : decode prog_3_method_4_code 31 = .ok (.getfield 18, 3) := by decide +kernel
theorem d_Ev_add_34 : decode prog_3_method_4_code 34 = .ok (.iconst 1, 1) := by decide +kernel
theorem d_Ev_add_35 : decode prog_3_method_4_code 35 = .ok (.iadd, 1) := by decide +kernel
theorem d_Ev_add_36 : decode prog_3_method_4_code 36 = .ok (.putfield 18, 3) := by decide +kernel
theorem d_Ev_add_39 : decode prog_3_method_4_code 39 = .ok (.return_, 1) := by decide +kernel
theorem d_Lg_init_0 : decode prog_4_method_1_code 0 = .ok (.aload_n 0, 1) := by decide +kernel
theorem d_Lg_init_1 : decode prog_4_method_1_code 1 = .ok (.invokespecial 3, 3) := by decide +kernel
theorem d_Lg_init_4 : decode prog_4_method_1_code 4 = .ok (.aload_n 0, 1) := by decide +kernel
theorem d_Lg_init_5 : decode prog_4_method_1_code 5 = .ok (.new 9, 3) := by decide +kernel
theorem d_Lg_init_8 : decode prog_4_method_1_code 8 = .ok (.dup, 1) := by decide +kernel
theorem d_Lg_init_9 : decode prog_4_method_1_code 9 = .ok (.sipush 400, 3) := by decide +kernel
theorem d_Lg_init_12 : decode prog_4_method_1_code 12 = .ok (.invokespecial 11, 3) := by decide +kernel
theorem d_Lg_init_15 : decode prog_4_method_1_code 15 = .ok (.putfield 14, 3) := by decide +kernel
theorem d_Lg_init_18 : decode prog_4_method_1_code 18 = .ok (.return_, 1) := by decide +kernel
theorem d_Lg_addCreate_0 : decode prog_4_method_2_code 0 = .ok (.aload_n 0, 1) := by decide +kernel
theorem d_Lg_addCreate_1 : decode prog_4_method_2_code 1 = .ok (.getfield 14, 3) := by decide +kernel
theorem d_Lg_addCreate_4 : decode prog_4_method_2_code 4 = .ok (.iconst 1, 1) := by decide +kernel
theorem d_Lg_addCreate_5 : decode prog_4_method_2_code 5 = .ok (.iconst 1, 1) := by decide +kernel
theorem d_Lg_addCreate_6 : decode prog_4_method_2_code 6 = .ok (.invokevirtual 20, 3) := by decide +kernel
theorem d_Lg_addCreate_9 : decode prog_4_method_2_code 9 = .ok (.aload_n 0, 1) := by decide +kernel
theorem d_Lg_addCreate_10 : decode prog_4_method_2_code 10 = .ok (.getfield 14, 3) := by decide +kernel
theorem d_Lg_addCreate_13 : decode prog_4_method_2_code 13 = .ok (.iload_n 1, 1) := by decide +kernel
theorem d_Lg_addCreate_14 : decode prog_4_method_2_code 14 = .ok (.iconst 2, 1) := by decide +kernel
theorem d_Lg_addCreate_15 : decode prog_4_method_2_code 15 = .ok (.invokevirtual 20, 3) := by decide +kernel
theorem d_Lg_addCreate_18 : decode prog_4_method_2_code 18 = .ok (.aload_n 0, 1) := by decide +kernel
theorem d_Lg_addCreate_19 : decode prog_4_method_2_code 19 = .ok (.getfield 14, 3) := by decide +kernel
theorem d_Lg_addCreate_22 : decode prog_4_method_2_code 22 = .ok (.iload_n 2, 1) := by decide +kernel
theorem d_Lg_addCreate_23 : decode prog_4_method_2_code 23 = .ok (.iconst 2, 1) := by decide +kernel
theorem d_Lg_addCreate_24 : decode prog_4_method_2_code 24 = .ok (.invokevirtual 20, 3) := by decide +kernel
theorem d_Lg_addCreate_27 : decode prog_4_method_2_code 27 = .ok (.return_, 1) := by decide +kernel
theorem d_Lg_addDestroy_0 : decode prog_4_method_3_code 0 = .ok (.aload_n 0, 1) := by decide +kernel
theorem d_Lg_addDestroy_1 : decode prog_4_method_3_code 1 = .ok (.getfield 14, 3) := by decide +kernel
theorem d_Lg_addDestroy_4 : decode prog_4_method_3_code 4 = .ok (.iconst 2, 1) := by decide +kernel
theorem d_Lg_addDestroy_5 : decode prog_4_method_3_code 5 = .ok (.iconst 1, 1) := by decide +kernel
theorem d_Lg_addDestroy_6 : decode prog_4_method_3_code 6 = .ok (.invokevirtual 20, 3) := by decide +kernel
theorem d_Lg_addDestroy_9 : decode prog_4_method_3_code 9 = .ok (.aload_n 0, 1) := by decide +kernel
theorem d_Lg_addDestroy_10 : decode prog_4_method_3_code 10 = .ok (.getfield 14, 3) := by decide +kernel
theorem d_Lg_addDestroy_13 : decode prog_4_method_3_code 13 = .ok (.iload_n 1, 1) := by decide +kernel
theorem d_Lg_addDestroy_14 : decode prog_4_method_3_code 14 = .ok (.iconst 3, 1) := by decide +kernel
theorem d_Lg_addDestroy_15 : decode prog_4_method_3_code 15 = .ok (.invokevirtual 20, 3) := by decide +kernel
theorem d_Lg_addDestroy_18 : decode prog_4_method_3_code 18 = .ok (.return_, 1) := by decide +kernel
theorem d_Lg_addSpeed_0 : decode prog_4_method_4_code 0 = .ok (.aload_n 0, 1) := by decide +kernel
theorem d_Lg_addSpeed_1 : decode prog_4_method_4_code 1 = .ok (.getfield 14, 3) := by decide +kernel
theorem d_Lg_addSpeed_4 : decode prog_4_method_4_code 4 = .ok (.iconst 3, 1) := by decide +kernel
theorem d_Lg_addSpeed_5 : decode prog_4_method_4_code 5 = .ok (.iconst 1, 1) := by decide +kernel
theorem d_Lg_addSpeed_6 : decode prog_4_method_4_code 6 = .ok (.invokevirtual 20, 3) := by decide +kernel
theorem d_Lg_addSpeed_9 : decode prog_4_method_4_code 9 = .ok (.aload_n 0, 1) := by decide +kernel
theorem d_Lg_addSpeed_10 : decode prog_4_method_4_code 10 = .ok (.getfield 14, 3) := by decide +kernel
theorem d_Lg_addSpeed_13 : decode prog_4_method_4_code 13 = .ok (.iload_n 1, 1) := by decide +kernel
theorem d_Lg_addSpeed_14 : decode prog_4_method_4_code 14 = .ok (.iconst 3, 1) := by decide +kernel
theorem d_Lg_addSpeed_15 : decode prog_4_method_4_code 15 = .ok (.invokevirtual 20, 3) := by decide +kernel
theorem d_Lg_addSpeed_18 : decode prog_4_method_4_code 18 = .ok (.aload_n 0, 1) := by decide +kernel
theorem d_Lg_addSpeed_19 : decode prog_4_method_4_code 19 = .ok (.getfield 14, 3) := by decide +kernel
theorem d_Lg_addSpeed_22 : decode prog_4_method_4_code 22 = .ok (.iload_n 2, 1) := by decide +kernel
theorem d_Lg_addSpeed_23 : decode prog_4_method_4_code 23 = .ok (.sipush 128, 3) := by decide +kernel
theorem d_Lg_addSpeed_26 : decode prog_4_method_4_code 26 = .ok (.iadd, 1) := by decide +kernel
theorem d_Lg_addSpeed_27 : decode prog_4_method_4_code 27 = .ok (.iconst 1, 1) := by decide +kernel
theorem d_Lg_addSpeed_28 : decode prog_4_method_4_code 28 = .ok (.invokevirtual 20, 3) := by decide +kernel
theorem d_Lg_addSpeed_31 : decode prog_4_method_4_code 31 = .ok (.aload_n 0, 1) := by decide +kernel
theorem d_Lg_addSpeed_32 : decode prog_4_method_4_code 32 = .ok (.getfield 14, 3) := by decide +kernel
theorem d_Lg_addSpeed_35 : decode prog_4_method_4_code 35 = .ok (.iload_n 3, 1) := by decide +kernel
theorem d_Lg_addSpeed_36 : decode prog_4_method_4_code 36 = .ok (.sipush 128, 3) := by decide +kernel
theorem d_Lg_addSpeed_39 : decode prog_4_method_4_code 39 = .ok (.iadd, 1) := by decide +kernel
theorem d_Lg_addSpeed_40 : decode prog_4_method_4_code 40 = .ok (.iconst 1, 1) := by decide +kernel
theorem d_Lg_addSpeed_41 : decode prog_4_method_4_code 41 = .ok (.invokevirtual 20, 3) := by decide +kernel
theorem d_Lg_addSpeed_44 : decode prog_4_method_4_code 44 = .ok (.return_, 1) := by decide +kernel
theorem d_Lg_addShape_0 : decode prog_4_method_5_code 0 = .ok (.aload_n 0, 1) := by decide +kernel
theorem d_Lg_addShape_1 : decode prog_4_method_5_code 1 = .ok (.getfield 14, 3) := by decide +kernel
theorem d_Lg_addShape_4 : decode prog_4_method_5_code 4 = .ok (.iconst 4, 1) := by decide +kernel
theorem d_Lg_addShape_5 : decode prog_4_method_5_code 5 = .ok (.iconst 1, 1) := by decide +kernel
theorem d_Lg_addShape_6 : decode prog_4_method_5_code 6 = .ok (.invokevirtual 20, 3) := by decide +kernel
theorem d_Lg_addShape_9 : decode prog_4_method_5_code 9 = .ok (.aload_n 0, 1) := by decide +kernel
theorem d_Lg_addShape_10 : decode prog_4_method_5_code 10 = .ok (.getfield 14, 3) := by decide +kernel
theorem d_Lg_addShape_13 : decode prog_4_method_5_code 13 = .ok (.iload_n 1, 1) := by decide +kernel
theorem d_Lg_addShape_14 : decode prog_4_method_5_code 14 = .ok (.iconst 3, 1) := by decide +kernel
theorem d_Lg_addShape_15 : decode prog_4_method_5_code 15 = .ok (.invokevirtual 20, 3) := by decide +kernel
theorem d_Lg_addShape_18 : decode prog_4_method_5_code 18 = .ok (.aload_n 0, 1) := by decide +kernel
theorem d_Lg_addShape_19 : decode prog_4_method_5_code 19 = .ok (.getfield 14, 3) := by decide +kernel
theorem d_Lg_addShape_22 : decode prog_4_method_5_code 22 = .ok (.iload_n 2, 1) := by decide +kernel
theorem d_Lg_addShape_23 : decode prog_4_method_5_code 23 = .ok (.iconst 1, 1) := by decide +kernel
theorem d_Lg_addShape_24 : decode prog_4_method_5_code 24 = .ok (.invokevirtual 20, 3) := by decide +kernel
theorem d_Lg_addShape_27 : decode prog_4_method_5_code 27 = .ok (.aload_n 0, 1) := by decide +kernel
theorem d_Lg_addShape_28 : decode prog_4_method_5_code 28 = .ok (.getfield 14, 3) := by decide +kernel
theorem d_Lg_addShape_31 : decode prog_4_method_5_code 31 = .ok (.iload_n 3, 1) := by decide +kernel
theorem d_Lg_addShape_32 : decode prog_4_method_5_code 32 = .ok (.iconst 1, 1) := by decide +kernel
theorem d_Lg_addShape_33 : decode prog_4_method_5_code 33 = .ok (.invokevirtual 20, 3) := by decide +kernel
theorem d_Lg_addShape_36 : decode prog_4_method_5_code 36 = .ok (.return_, 1) := by decide +kernel
theorem d_Lg_addTimer_0 : decode prog_4_method_6_code 0 = .ok (.aload_n 0, 1) := by decide +kernel
theorem d_Lg_addTimer_1 : decode prog_4_method_6_code 1 = .ok (.getfield 14, 3) := by decide +kernel
theorem d_Lg_addTimer_4 : decode prog_4_method_6_code 4 = .ok (.iconst 5, 1) := by decide +kernel
theorem d_Lg_addTimer_5 : decode prog_4_method_6_code 5 = .ok (.iconst 1, 1) := by decide +kernel
theorem d_Lg_addTimer_6 : decode prog_4_method_6_code 6 = .ok (.invokevirtual 20, 3) := by decide +kernel
theorem d_Lg_addTimer_9 : decode prog_4_method_6_code 9 = .ok (.aload_n 0, 1) := by decide +kernel
theorem d_Lg_addTimer_10 : decode prog_4_method_6_code 10 = .ok (.getfield 14, 3) := by decide +kernel
theorem d_Lg_addTimer_13 : decode prog_4_method_6_code 13 = .ok (.iload_n 1, 1) := by decide +kernel
theorem d_Lg_addTimer_14 : decode prog_4_method_6_code 14 = .ok (.iconst 3, 1) := by decide +kernel
theorem d_Lg_addTimer_15 : decode prog_4_method_6_code 15 = .ok (.invokevirtual 20, 3) := by decide +kernel
theorem d_Lg_addTimer_18 : decode prog_4_method_6_code 18 = .ok (.aload_n 0, 1) := by decide +kernel
theorem d_Lg_addTimer_19 : decode prog_4_method_6_code 19 = .ok (.getfield 14, 3) := by decide +kernel
theorem d_Lg_addTimer_22 : decode prog_4_method_6_code 22 = .ok (.iload_n 2, 1) := by decide +kernel
theorem d_Lg_addTimer_23 : decode prog_4_method_6_code 23 = .ok (.iconst 2, 1) := by decide +kernel
theorem d_Lg_addTimer_24 : decode prog_4_method_6_code 24 = .ok (.invokevirtual 20, 3) := by decide +kernel
theorem d_Lg_addTimer_27 : decode prog_4_method_6_code 27 = .ok (.return_, 1) := by decide +kernel
theorem d_Lg_addTick_0 : decode prog_4_method_7_code 0 = .ok (.aload_n 0, 1) := by decide +kernel
theorem d_Lg_addTick_1 : decode prog_4_method_7_code 1 = .ok (.getfield 14, 3) := by decide +kernel
theorem d_Lg_addTick_4 : decode prog_4_method_7_code 4 = .ok (.bipush 6, 2) := by decide +kernel
theorem d_Lg_addTick_6 : decode prog_4_method_7_code 6 = .ok (.iconst 1, 1) := by decide +kernel
theorem d_Lg_addTick_7 : decode prog_4_method_7_code 7 = .ok (.invokevirtual 20, 3) := by decide +kernel
theorem d_Lg_addTick_10 : decode prog_4_method_7_code 10 = .ok (.return_, 1) := by decide +kernel
theorem d_Lg_redoOn_0 : decode prog_4_method_8_code 0 = .ok (.aload_n 0, 1) := by decide +kernel
theorem d_Lg_redoOn_1 : decode prog_4_method_8_code 1 = .ok (.getfield 14, 3) := by decide +kernel
theorem d_Lg_redoOn_4 : decode prog_4_method_8_code 4 = .ok (.iconst 0, 1) := by decide +kernel
theorem d_Lg_redoOn_5 : decode prog_4_method_8_code 5 = .ok (.putfield 24, 3) := by decide +kernel
theorem d_Lg_redoOn_8 : decode prog_4_method_8_code 8 = .ok (.iconst 0, 1) := by decide +kernel
theorem d_Lg_redoOn_9 : decode prog_4_method_8_code 9 = .ok (.istore_n 2, 1) := by decide +kernel
theorem d_Lg_redoOn_10 : decode prog_4_method_8_code 10 = .ok (.iload_n 2, 1) := by decide +kernel
theorem d_Lg_redoOn_11 : decode prog_4_method_8_code 11 = .ok (.sipush 400, 3) := by decide +kernel
theorem d_Lg_redoOn_14 : decode prog_4_method_8_code 14 = .ok (.if_icmp .ge 37, 3) := by decide +kernel
theorem d_Lg_redoOn_17 : decode prog_4_method_8_code 17 = .ok (.aload_n 0, 1) := by decide +kernel
theorem d_Lg_redoOn_18 : decode prog_4_method_8_code 18 = .ok (.getfield 14, 3) := by decide +kernel
theorem d_Lg_redoOn_21 : decode prog_4_method_8_code 21 = .ok (.invokevirtual 28, 3) := by decide +kernel
theorem d_Lg_redoOn_24 : decode prog_4_method_8_code 24 = .ok (.ifCond .ne 27, 3) := by decide +kernel
theorem d_Lg_redoOn_27 : decode prog_4_method_8_code 27 = .ok (.aload_n 0, 1) := by decide +kernel
theorem d_Lg_redoOn_28 : decode prog_4_method_8_code 28 = .ok (.getfield 14, 3) := by decide +kernel
theorem d_Lg_redoOn_31 : decode prog_4_method_8_code 31 = .ok (.getfield 24, 3) := by decide +kernel
theorem d_Lg_redoOn_34 : decode prog_4_method_8_code 34 = .ok (.istore_n 3, 1) := by decide +kernel
theorem d_Lg_redoOn_35 : decode prog_4_method_8_code 35 = .ok (.aload_n 0, 1) := by decide +kernel
theorem d_Lg_redoOn_36 : decode prog_4_method_8_code 36 = .ok (.aload_n 1, 1) := by decide +kernel
theorem d_Lg_redoOn_37 : decode prog_4_method_8_code 37 = .ok (.invokevirtual 32, 3) := by decide +kernel
theorem d_Lg_redoOn_40 : decode prog_4_method_8_code 40 = .ok (.ifCond .ne 5, 3) := by decide +kernel
theorem d_Lg_redoOn_43 : decode prog_4_method_8_code 43 = .ok (.iload_n 3, 1) := by decide +kernel
theorem d_Lg_redoOn_44 : decode prog_4_method_8_code 44 = .ok (.ireturn, 1) := by decide +kernel
theorem d_Lg_redoOn_45 : decode prog_4_method_8_code 45 = .ok (.iinc 2 1, 3) := by decide +kernel
theorem d_Lg_redoOn_48 : decode prog_4_method_8_code 48 = .ok (.goto (-38), 3) := by decide +kernel
theorem d_Lg_redoOn_51 : decode prog_4_method_8_code 51 = .ok (.iconst (-1), 1) := by decide +kernel
theorem d_Lg_redoOn_52 : decode prog_4_method_8_code 52 = .ok (.ireturn, 1) := by decide +kernel
theorem d_Lg_redoEntry_0 : decode prog_4_method_9_code 0 = .ok (.aload_n 0, 1) := by decide +kernel
theorem d_Lg_redoEntry_1 : decode prog_4_method_9_code 1 = .ok (.getfield 14, 3) := by decide +kernel
theorem d_Lg_redoEntry_4 : decode prog_4_method_9_code 4 = .ok (.iconst 1, 1) := by decide +kernel
theorem d_Lg_redoEntry_5 : decode prog_4_method_9_code 5 = .ok (.invokevirtual 36, 3) := by decide +kernel
theorem d_Lg_redoEntry_8 : decode prog_4_method_9_code 8 = .ok (.tableswitch 76 1 6 #[40, 46, 52, 58, 64, 70], 40) := by decide +kernel
theorem d_Lg_redoEntry_48 : decode prog_4_method_9_code 48 = .ok (.aload_n 0, 1) := by decide +kernel
theorem d_Lg_redoEntry_49 : decode prog_4_method_9_code 49 = .ok (.aload_n 1, 1) := by decide +kernel
theorem d_Lg_redoEntry_50 : decode prog_4_method_9_code 50 = .ok (.invokevirtual 40, 3) := by decide +kernel
theorem d_Lg_redoEntry_53 : decode prog_4_method_9_code 53 = .ok (.ireturn, 1) := by decide +kernel
theorem d_Lg_redoEntry_54 : decode prog_4_method_9_code 54 = .ok (.aload_n 0, 1) := by decide +kernel
theorem d_Lg_redoEntry_55 : decode prog_4_method_9_code 55 = .ok (.aload_n 1, 1) := by decide +kernel
theorem d_Lg_redoEntry_56 : decode prog_4_method_9_code 56 = .ok (.invokevirtual 43, 3) := by decide +kernel
theorem d_Lg_redoEntry_59 : decode prog_4_method_9_code 59 = .ok (.ireturn, 1) := by decide +kernel
theorem d_Lg_redoEntry_60 : decode prog_4_method_9_code 60 = .ok (.aload_n 0, 1) := by decide +kernel
theorem d_Lg_redoEntry_61 : decode prog_4_method_9_code 61 = .ok (.aload_n 1, 1) := by decide +kernel
theorem d_Lg_redoEntry_62 : decode prog_4_method_9_code 62 = .ok (.invokevirtual 46, 3) := by decide +kernel
theorem d_Lg_redoEntry_65 : decode prog_4_method_9_code 65 = .ok (.ireturn, 1) := by decide +kernel
theorem d_Lg_redoEntry_66 : decode prog_4_method_9_code 66 = .ok (.aload_n 0, 1) := by decide +kernel
theorem d_Lg_redoEntry_67 : decode prog_4_method_9_code 67 = .ok (.aload_n 1, 1) := by decide +kernel
theorem d_Lg_redoEntry_68 : decode prog_4_method_9_code 68 = .ok (.invokevirtual 49, 3) := by decide +kernel
theorem d_Lg_redoEntry_71 : decode prog_4_method_9_code 71 = .ok (.ireturn, 1) := by decide +kernel
theorem d_Lg_redoEntry_72 : decode prog_4_method_9_code 72 = .ok (.aload_n 0, 1) := by decide +kernel
theorem d_Lg_redoEntry_73 : decode prog_4_method_9_code 73 = .ok (.aload_n 1, 1) := by decide +kernel
theorem d_Lg_redoEntry_74 : decode prog_4_method_9_code 74 = .ok (.invokevirtual 52, 3) := by decide +kernel
theorem d_Lg_redoEntry_77 : decode prog_4_method_9_code 77 = .ok (.ireturn, 1) := by decide +kernel
theorem d_Lg_redoEntry_78 : decode prog_4_method_9_code 78 = .ok (.aload_n 1, 1) := by decide +kernel
theorem d_Lg_redoEntry_79 : decode prog_4_method_9_code 79 = .ok (.invokevirtual 55, 3) := by decide +kernel
theorem d_Lg_redoEntry_82 : decode prog_4_method_9_code 82 = .ok (.iconst 1, 1) := by decide +kernel
theorem d_Lg_redoEntry_83 : decode prog_4_method_9_code 83 = .ok (.ireturn, 1) := by decide +kernel
theorem d_Lg_redoEntry_84 : decode prog_4_method_9_code 84 = .ok (.iconst 0, 1) := by decide +kernel
theorem d_Lg_redoEntry_85 : decode prog_4_method_9_code 85 = .ok (.ireturn, 1) := by decide +kernel
theorem d_Lg_redoCreate_0 : decode prog_4_method_10_code 0 = .ok (.aload_n 0, 1) := by decide +kernel
theorem d_Lg_redoCreate_1 : decode prog_4_method_10_code 1 = .ok (.getfield 14, 3) := by decide +kernel
theorem d_Lg_redoCreate_4 : decode prog_4_method_10_code 4 = .ok (.iconst 2, 1) := by decide +kernel
theorem d_Lg_redoCreate_5 : decode prog_4_method_10_code 5 = .ok (.invokevirtual 36, 3) := by decide +kernel
theorem d_Lg_redoCreate_8 : decode prog_4_method_10_code 8 = .ok (.istore_n 2, 1) := by decide +kernel
theorem d_Lg_redoCreate_9 : decode prog_4_method_10_code 9 = .ok (.aload_n 0, 1) := by decide +kernel
theorem d_Lg_redoCreate_10 : decode prog_4_method_10_code 10 = .ok (.getfield 14, 3) := by decide +kernel
theorem d_Lg_redoCreate_13 : decode prog_4_method_10_code 13 = .ok (.iconst 2, 1) := by decide +kernel
theorem d_Lg_redoCreate_14 : decode prog_4_method_10_code 14 = .ok (.invokevirtual 36, 3) := by decide +kernel
theorem d_Lg_redoCreate_17 : decode prog_4_method_10_code 17 = .ok (.istore_n 3, 1) := by decide +kernel
theorem d_Lg_redoCreate_18 : decode prog_4_method_10_code 18 = .ok (.iload_n 2, 1) := by decide +kernel
theorem d_Lg_redoCreate_19 : decode prog_4_method_10_code 19 = .ok (.iload_n 3, 1) := by decide +kernel
theorem d_Lg_redoCreate_20 : decode prog_4_method_10_code 20 = .ok (.invokestatic 60, 3) := by decide +kernel
theorem d_Lg_redoCreate_23 : decode prog_4_method_10_code 23 = .ok (.ifCond .eq 17, 3) := by decide +kernel
theorem d_Lg_redoCreate_26 : decode prog_4_method_10_code 26 = .ok (.aload_n 1, 1) := by decide +kernel
theorem d_Lg_redoCreate_27 : decode prog_4_method_10_code 27 = .ok (.iload_n 2, 1) := by decide +kernel
theorem d_Lg_redoCreate_28 : decode prog_4_method_10_code 28 = .ok (.iload_n 3, 1) := by decide +kernel
theorem d_Lg_redoCreate_29 : decode prog_4_method_10_code 29 = .ok (.invokevirtual 64, 3) := by decide +kernel
theorem d_Lg_redoCreate_32 : decode prog_4_method_10_code 32 = .ok (.iconst (-1), 1) := by decide +kernel
theorem d_Lg_redoCreate_33 : decode prog_4_method_10_code 33 = .ok (.if_icmp .eq 7, 3) := by decide +kernel
theorem d_Lg_redoCreate_36 : decode prog_4_method_10_code 36 = .ok (.iconst 1, 1) := by decide +kernel
theorem d_Lg_redoCreate_37 : decode prog_4_method_10_code 37 = .ok (.goto 4, 3) := by decide +kernel
theorem d_Lg_redoCreate_40 : decode prog_4_method_10_code 40 = .ok (.iconst 0, 1) := by decide +kernel
theorem d_Lg_redoCreate_41 : decode prog_4_method_10_code 41 = .ok (.ireturn, 1) := by decide +kernel
theorem d_Lg_redoDestroy_0 : decode prog_4_method_11_code 0 = .ok (.aload_n 0, 1) := by decide +kernel
theorem d_Lg_redoDestroy_1 : decode prog_4_method_11_code 1 = .ok (.getfield 14, 3) := by decide +kernel
theorem d_Lg_redoDestroy_4 : decode prog_4_method_11_code 4 = .ok (.iconst 3, 1) := by decide +kernel
theorem d_Lg_redoDestroy_5 : decode prog_4_method_11_code 5 = .ok (.invokevirtual 36, 3) := by decide +kernel
theorem d_Lg_redoDestroy_8 : decode prog_4_method_11_code 8 = .ok (.istore_n 2, 1) := by decide +kernel
theorem d_Lg_redoDestroy_9 : decode prog_4_method_11_code 9 = .ok (.aload_n 1, 1) := by decide +kernel
theorem d_Lg_redoDestroy_10 : decode prog_4_method_11_code 10 = .ok (.iload_n 2, 1) := by decide +kernel
theorem d_Lg_redoDestroy_11 : decode prog_4_method_11_code 11 = .ok (.invokevirtual 68, 3) := by decide +kernel
theorem d_Lg_redoDestroy_14 : decode prog_4_method_11_code 14 = .ok (.ifCond .ne 5, 3) := by decide +kernel
theorem d_Lg_redoDestroy_17 : decode prog_4_method_11_code 17 = .ok (.iconst 0, 1) := by decide +kernel
theorem d_Lg_redoDestroy_18 : decode prog_4_method_11_code 18 = .ok (.ireturn, 1) := by decide +kernel
theorem d_Lg_redoDestroy_19 : decode prog_4_method_11_code 19 = .ok (.aload_n 1, 1) := by decide +kernel
theorem d_Lg_redoDestroy_20 : decode prog_4_method_11_code 20 = .ok (.iload_n 2, 1) := by decide +kernel
theorem d_Lg_redoDestroy_21 : decode prog_4_method_11_code 21 = .ok (.invokestatic 72, 3) := by decide +kernel
theorem d_Lg_redoDestroy_24 : decode prog_4_method_11_code 24 = .ok (.invokevirtual 75, 3) := by decide +kernel
theorem d_Lg_redoDestroy_27 : decode prog_4_method_11_code 27 = .ok (.iconst 1, 1) := by decide +kernel
theorem d_Lg_redoDestroy_28 : decode prog_4_method_11_code 28 = .ok (.ireturn, 1) := by decide +kernel
theorem d_Lg_redoSpeed_0 : decode prog_4_method_12_code 0 = .ok (.aload_n 0, 1) := by decide +kernel
theorem d_Lg_redoSpeed_1 : decode prog_4_method_12_code 1 = .ok (.getfield 14, 3) := by decide +kernel
theorem d_Lg_redoSpeed_4 : decode prog_4_method_12_code 4 = .ok (.iconst 3, 1) := by decide +kernel
theorem d_Lg_redoSpeed_5 : decode prog_4_method_12_code 5 = .ok (.invokevirtual 36, 3) := by decide +kernel
theorem d_Lg_redoSpeed_8 : decode prog_4_method_12_code 8 = .ok (.istore_n 2, 1) := by decide +kernel
theorem d_Lg_redoSpeed_9 : decode prog_4_method_12_code 9 = .ok (.aload_n 0, 1) := by decide +kernel
theorem d_Lg_redoSpeed_10 : decode prog_4_method_12_code 10 = .ok (.getfield 14, 3) := by decide +kernel
theorem d_Lg_redoSpeed_13 : decode prog_4_method_12_code 13 = .ok (.iconst 1, 1) := by decide +kernel
theorem d_Lg_redoSpeed_14 : decode prog_4_method_12_code 14 = .ok (.invokevirtual 36, 3) := by decide +kernel
theorem d_Lg_redoSpeed_17 : decode prog_4_method_12_code 17 = .ok (.sipush 128, 3) := by decide +kernel
theorem d_Lg_redoSpeed_20 : decode prog_4_method_12_code 20 = .ok (.isub, 1) := by decide +kernel
theorem d_Lg_redoSpeed_21 : decode prog_4_method_12_code 21 = .ok (.istore_n 3, 1) := by decide +kernel
theorem d_Lg_redoSpeed_22 : decode prog_4_method_12_code 22 = .ok (.aload_n 0, 1) := by decide +kernel
theorem d_Lg_redoSpeed_23 : decode prog_4_method_12_code 23 = .ok (.getfield 14, 3) := by decide +kernel
theorem d_Lg_redoSpeed_26 : decode prog_4_method_12_code 26 = .ok (.iconst 1, 1) := by decide +kernel
theorem d_Lg_redoSpeed_27 : decode prog_4_method_12_code 27 = .ok (.invokevirtual 36, 3) := by decide +kernel
theorem d_Lg_redoSpeed_30 : decode prog_4_method_12_code 30 = .ok (.sipush 128, 3) := by decide +kernel
theorem d_Lg_redoSpeed_33 : decode prog_4_method_12_code 33 = .ok (.isub, 1) := by decide +kernel
theorem d_Lg_redoSpeed_34 : decode prog_4_method_12_code 34 = .ok (.istore 4, 2) := by decide +kernel
theorem d_Lg_redoSpeed_36 : decode prog_4_method_12_code 36 = .ok (.aload_n 1, 1) := by decide +kernel
theorem d_Lg_redoSpeed_37 : decode prog_4_method_12_code 37 = .ok (.iload_n 2, 1) := by decide +kernel
theorem d_Lg_redoSpeed_38 : decode prog_4_method_12_code 38 = .ok (.invokevirtual 68, 3) := by decide +kernel
theorem d_Lg_redoSpeed_41 : decode prog_4_method_12_code 41 = .ok (.ifCond .eq 12, 3) := by decide +kernel
theorem d_Lg_redoSpeed_44 : decode prog_4_method_12_code 44 = .ok (.iload_n 3, 1) := by decide +kernel
theorem d_Lg_redoSpeed_45 : decode prog_4_method_12_code 45 = .ok (.iload 4, 2) := by decide +kernel
theorem d_Lg_redoSpeed_47 : decode prog_4_method_12_code 47 = .ok (.invokestatic 78, 3) := by decide +kernel
theorem d_Lg_redoSpeed_50 : decode prog_4_method_12_code 50 = .ok (.ifCond .ne 5, 3) := by decide +kernel
theorem d_Lg_redoSpeed_53 : decode prog_4_method_12_code 53 = .ok (.iconst 0, 1) := by decide +kernel
theorem d_Lg_redoSpeed_54 : decode prog_4_method_12_code 54 = .ok (.ireturn, 1) := by decide +kernel
theorem d_Lg_redoSpeed_55 : decode prog_4_method_12_code 55 = .ok (.aload_n 1, 1) := by decide +kernel
theorem d_Lg_redoSpeed_56 : decode prog_4_method_12_code 56 = .ok (.iload_n 2, 1) := by decide +kernel
theorem d_Lg_redoSpeed_57 : decode prog_4_method_12_code 57 = .ok (.invokevirtual 81, 3) := by decide +kernel
theorem d_Lg_redoSpeed_60 : decode prog_4_method_12_code 60 = .ok (.iload_n 3, 1) := by decide +kernel
theorem d_Lg_redoSpeed_61 : decode prog_4_method_12_code 61 = .ok (.iload 4, 2) := by decide +kernel
theorem d_Lg_redoSpeed_63 : decode prog_4_method_12_code 63 = .ok (.invokevirtual 85, 3) := by decide +kernel
theorem d_Lg_redoSpeed_66 : decode prog_4_method_12_code 66 = .ok (.iconst 1, 1) := by decide +kernel
theorem d_Lg_redoSpeed_67 : decode prog_4_method_12_code 67 = .ok (.ireturn, 1) := by decide +kernel
theorem d_Lg_redoShape_0 : decode prog_4_method_13_code 0 = .ok (.aload_n 0, 1) := by decide +kernel
theorem d_Lg_redoShape_1 : decode prog_4_method_13_code 1 = .ok (.getfield 14, 3) := by decide +kernel
theorem d_Lg_redoShape_4 : decode prog_4_method_13_code 4 = .ok (.iconst 3, 1) := by decide +kernel
theorem d_Lg_redoShape_5 : decode prog_4_method_13_code 5 = .ok (.invokevirtual 36, 3) := by decide +kernel
theorem d_Lg_redoShape_8 : decode prog_4_method_13_code 8 = .ok (.istore_n 2, 1) := by decide +kernel
theorem d_Lg_redoShape_9 : decode prog_4_method_13_code 9 = .ok (.aload_n 0, 1) := by decide +kernel
theorem d_Lg_redoShape_10 : decode prog_4_method_13_code 10 = .ok (.getfield 14, 3) := by decide +kernel
theorem d_Lg_redoShape_13 : decode prog_4_method_13_code 13 = .ok (.iconst 1, 1) := by decide +kernel
theorem d_Lg_redoShape_14 : decode prog_4_method_13_code 14 = .ok (.invokevirtual 36, 3) := by decide +kernel
theorem d_Lg_redoShape_17 : decode prog_4_method_13_code 17 = .ok (.istore_n 3, 1) := by decide +kernel
theorem d_Lg_redoShape_18 : decode prog_4_method_13_code 18 = .ok (.aload_n 0, 1) := by decide +kernel
theorem d_Lg_redoShape_19 : decode prog_4_method_13_code 19 = .ok (.getfield 14, 3) := by decide +kernel
theorem d_Lg_redoShape_22 : decode prog_4_method_13_code 22 = .ok (.iconst 1, 1) := by decide +kernel
theorem d_Lg_redoShape_23 : decode prog_4_method_13_code 23 = .ok (.invokevirtual 36, 3) := by decide +kernel
theorem d_Lg_redoShape_26 : decode prog_4_method_13_code 26 = .ok (.istore 4, 2) := by decide +kernel
theorem d_Lg_redoShape_28 : decode prog_4_method_13_code 28 = .ok (.aload_n 1, 1) := by decide +kernel
theorem d_Lg_redoShape_29 : decode prog_4_method_13_code 29 = .ok (.iload_n 2, 1) := by decide +kernel
theorem d_Lg_redoShape_30 : decode prog_4_method_13_code 30 = .ok (.invokevirtual 68, 3) := by decide +kernel
theorem d_Lg_redoShape_33 : decode prog_4_method_13_code 33 = .ok (.ifCond .eq 12, 3) := by decide +kernel
theorem d_Lg_redoShape_36 : decode prog_4_method_13_code 36 = .ok (.iload_n 3, 1) := by decide +kernel
theorem d_Lg_redoShape_37 : decode prog_4_method_13_code 37 = .ok (.iload 4, 2) := by decide +kernel
theorem d_Lg_redoShape_39 : decode prog_4_method_13_code 39 = .ok (.invokestatic 90, 3) := by decide +kernel
theorem d_Lg_redoShape_42 : decode prog_4_method_13_code 42 = .ok (.ifCond .ne 5, 3) := by decide +kernel
theorem d_Lg_redoShape_45 : decode prog_4_method_13_code 45 = .ok (.iconst 0, 1) := by decide +kernel
theorem d_Lg_redoShape_46 : decode prog_4_method_13_code 46 = .ok (.ireturn, 1) := by decide +kernel
theorem d_Lg_redoShape_47 : decode prog_4_method_13_code 47 = .ok (.aload_n 1, 1) := by decide +kernel
theorem d_Lg_redoShape_48 : decode prog_4_method_13_code 48 = .ok (.iload_n 2, 1) := by decide +kernel
theorem d_Lg_redoShape_49 : decode prog_4_method_13_code 49 = .ok (.invokevirtual 81, 3) := by decide +kernel
theorem d_Lg_redoShape_52 : decode prog_4_method_13_code 52 = .ok (.iload_n 3, 1) := by decide +kernel
theorem d_Lg_redoShape_53 : decode prog_4_method_13_code 53 = .ok (.iload 4, 2) := by decide +kernel
theorem d_Lg_redoShape_55 : decode prog_4_method_13_code 55 = .ok (.invokevirtual 93, 3) := by decide +kernel
theorem d_Lg_redoShape_58 : decode prog_4_method_13_code 58 = .ok (.iconst 1, 1) := by decide +kernel
theorem d_Lg_redoShape_59 : decode prog_4_method_13_code 59 = .ok (.ireturn, 1) := by decide +kernel
theorem d_Lg_redoTimer_0 : decode prog_4_method_14_code 0 = .ok (.aload_n 0, 1) := by decide +kernel
theorem d_Lg_redoTimer_1 : decode prog_4_method_14_code 1 = .ok (.getfield 14, 3) := by decide +kernel
theorem d_Lg_redoTimer_4 : decode prog_4_method_14_code 4 = .ok (.iconst 3, 1) := by decide +kernel
theorem d_Lg_redoTimer_5 : decode prog_4_method_14_code 5 = .ok (.invokevirtual 36, 3) := by decide +kernel
theorem d_Lg_redoTimer_8 : decode prog_4_method_14_code 8 = .ok (.istore_n 2, 1) := by decide +kernel
theorem d_Lg_redoTimer_9 : decode prog_4_method_14_code 9 = .ok (.aload_n 0, 1) := by decide +kernel
theorem d_Lg_redoTimer_10 : decode prog_4_method_14_code 10 = .ok (.getfield 14, 3) := by decide +kernel
theorem d_Lg_redoTimer_13 : decode prog_4_method_14_code 13 = .ok (.iconst 2, 1) := by decide +kernel
theorem d_Lg_redoTimer_14 : decode prog_4_method_14_code 14 = .ok (.invokevirtual 36, 3) := by decide +kernel
theorem d_Lg_redoTimer_17 : decode prog_4_method_14_code 17 = .ok (.istore_n 3, 1) := by decide +kernel
theorem d_Lg_redoTimer_18 : decode prog_4_method_14_code 18 = .ok (.aload_n 1, 1) := by decide +kernel
theorem d_Lg_redoTimer_19 : decode prog_4_method_14_code 19 = .ok (.iload_n 2, 1) := by decide +kernel
theorem d_Lg_redoTimer_20 : decode prog_4_method_14_code 20 = .ok (.invokevirtual 68, 3) := by decide +kernel
theorem d_Lg_redoTimer_23 : decode prog_4_method_14_code 23 = .ok (.ifCond .eq 10, 3) := by decide +kernel
theorem d_Lg_redoTimer_26 : decode prog_4_method_14_code 26 = .ok (.iload_n 3, 1) := by decide +kernel
theorem d_Lg_redoTimer_27 : decode prog_4_method_14_code 27 = .ok (.invokestatic 96, 3) := by decide +kernel
theorem d_Lg_redoTimer_30 : decode prog_4_method_14_code 30 = .ok (.ifCond .ne 5, 3) := by decide +kernel
theorem d_Lg_redoTimer_33 : decode prog_4_method_14_code 33 = .ok (.iconst 0, 1) := by decide +kernel
theorem d_Lg_redoTimer_34 : decode prog_4_method_14_code 34 = .ok (.ireturn, 1) := by decide +kernel
theorem d_Lg_redoTimer_35 : decode prog_4_method_14_code 35 = .ok (.aload_n 1, 1) := by decide +kernel
theorem d_Lg_redoTimer_36 : decode prog_4_method_14_code 36 = .ok (.iload_n 2, 1) := by decide +kernel
theorem d_Lg_redoTimer_37 : decode prog_4_method_14_code 37 = .ok (.invokevirtual 81, 3) := by decide +kernel
theorem d_Lg_redoTimer_40 : decode prog_4_method_14_code 40 = .ok (.iload_n 3, 1) := by decide +kernel
theorem d_Lg_redoTimer_41 : decode prog_4_method_14_code 41 = .ok (.putfield 99, 3) := by decide +kernel
theorem d_Lg_redoTimer_44 : decode prog_4_method_14_code 44 = .ok (.iconst 1, 1) := by decide +kernel
theorem d_Lg_redoTimer_45 : decode prog_4_method_14_code 45 = .ok (.ireturn, 1) := by decide +kernel
theorem d_Sl_init_0 : decode prog_5_method_1_code 0 = .ok (.aload_n 0, 1) := by decide +kernel
theorem d_Sl_init_1 : decode prog_5_method_1_code 1 = .ok (.invokespecial 3, 3) := by decide +kernel
theorem d_Sl_init_4 : decode prog_5_method_1_code 4 = .ok (.return_, 1) := by decide +kernel
theorem d_Sl_settle_0 : decode prog_5_method_2_code 0 = .ok (.aload_n 0, 1) := by decide +kernel
theorem d_Sl_settle_1 : decode prog_5_method_2_code 1 = .ok (.iconst 1, 1) := by decide +kernel
theorem d_Sl_settle_2 : decode prog_5_method_2_code 2 = .ok (.putfield 9, 3) := by decide +kernel
theorem d_Sl_settle_5 : decode prog_5_method_2_code 5 = .ok (.aload_n 0, 1) := by decide +kernel
theorem d_Sl_settle_6 : decode prog_5_method_2_code 6 = .ok (.iload_n 1, 1) := by decide +kernel
theorem d_Sl_settle_7 : decode prog_5_method_2_code 7 = .ok (.putfield 15, 3) := by decide +kernel
theorem d_Sl_settle_10 : decode prog_5_method_2_code 10 = .ok (.aload_n 0, 1) := by decide +kernel
theorem d_Sl_settle_11 : decode prog_5_method_2_code 11 = .ok (.iload_n 2, 1) := by decide +kernel
theorem d_Sl_settle_12 : decode prog_5_method_2_code 12 = .ok (.putfield 19, 3) := by decide +kernel
theorem d_Sl_settle_15 : decode prog_5_method_2_code 15 = .ok (.aload_n 0, 1) := by decide +kernel
theorem d_Sl_settle_16 : decode prog_5_method_2_code 16 = .ok (.iconst 0, 1) := by decide +kernel
theorem d_Sl_settle_17 : decode prog_5_method_2_code 17 = .ok (.iconst 0, 1) := by decide +kernel
theorem d_Sl_settle_18 : decode prog_5_method_2_code 18 = .ok (.invokevirtual 22, 3) := by decide +kernel
theorem d_Sl_settle_21 : decode prog_5_method_2_code 21 = .ok (.aload_n 0, 1) := by decide +kernel
theorem d_Sl_settle_22 : decode prog_5_method_2_code 22 = .ok (.iconst 0, 1) := by decide +kernel
theorem d_Sl_settle_23 : decode prog_5_method_2_code 23 = .ok (.iconst 0, 1) := by decide +kernel
theorem d_Sl_settle_24 : decode prog_5_method_2_code 24 = .ok (.invokevirtual 26, 3) := by decide +kernel
theorem d_Sl_settle_27 : decode prog_5_method_2_code 27 = .ok (.aload_n 0, 1) := by decide +kernel
theorem d_Sl_settle_28 : decode prog_5_method_2_code 28 = .ok (.iconst 0, 1) := by decide +kernel
theorem d_Sl_settle_29 : decode prog_5_method_2_code 29 = .ok (.putfield 29, 3) := by decide +kernel
theorem d_Sl_settle_32 : decode prog_5_method_2_code 32 = .ok (.return_, 1) := by decide +kernel
theorem d_Sl_vacate_0 : decode prog_5_method_3_code 0 = .ok (.aload_n 0, 1) := by decide +kernel
theorem d_Sl_vacate_1 : decode prog_5_method_3_code 1 = .ok (.iconst 0, 1) := by decide +kernel
theorem d_Sl_vacate_2 : decode prog_5_method_3_code 2 = .ok (.putfield 9, 3) := by decide +kernel
theorem d_Sl_vacate_5 : decode prog_5_method_3_code 5 = .ok (.aload_n 0, 1) := by decide +kernel
theorem d_Sl_vacate_6 : decode prog_5_method_3_code 6 = .ok (.aload_n 0, 1) := by decide +kernel
theorem d_Sl_vacate_7 : decode prog_5_method_3_code 7 = .ok (.getfield 32, 3) := by decide +kernel
theorem d_Sl_vacate_10 : decode prog_5_method_3_code 10 = .ok (.iconst 1, 1) := by decide +kernel
theorem d_Sl_vacate_11 : decode prog_5_method_3_code 11 = .ok (.iadd, 1) := by decide +kernel
theorem d_Sl_vacate_12 : decode prog_5_method_3_code 12 = .ok (.ldc 35, 2) := by decide +kernel
theorem d_Sl_vacate_14 : decode prog_5_method_3_code 14 = .ok (.irem, 1) := by decide +kernel
theorem d_Sl_vacate_15 : decode prog_5_method_3_code 15 = .ok (.putfield 32, 3) := by decide +kernel
theorem d_Sl_vacate_18 : decode prog_5_method_3_code 18 = .ok (.return_, 1) := by decide +kernel
theorem d_Sl_setSpeed_0 : decode prog_5_method_4_code 0 = .ok (.aload_n 0, 1) := by decide +kernel
theorem d_Sl_setSpeed_1 : decode prog_5_method_4_code 1 = .ok (.iload_n 1, 1) := by decide +kernel
theorem d_Sl_setSpeed_2 : decode prog_5_method_4_code 2 = .ok (.putfield 36, 3) := by decide +kernel
theorem d_Sl_setSpeed_5 : decode prog_5_method_4_code 5 = .ok (.aload_n 0, 1) := by decide +kernel
theorem d_Sl_setSpeed_6 : decode prog_5_method_4_code 6 = .ok (.iload_n 2, 1) := by decide +kernel
theorem d_Sl_setSpeed_7 : decode prog_5_method_4_code 7 = .ok (.putfield 39, 3) := by decide +kernel
theorem d_Sl_setSpeed_10 : decode prog_5_method_4_code 10 = .ok (.return_, 1) := by decide +kernel
theorem d_Sl_setShape_0 : decode prog_5_method_5_code 0 = .ok (.aload_n 0, 1) := by decide +kernel
theorem d_Sl_setShape_1 : decode prog_5_method_5_code 1 = .ok (.iload_n 1, 1) := by decide +kernel
theorem d_Sl_setShape_2 : decode prog_5_method_5_code 2 = .ok (.putfield 42, 3) := by decide +kernel
theorem d_Sl_setShape_5 : decode prog_5_method_5_code 5 = .ok (.aload_n 0, 1) := by decide +kernel
theorem d_Sl_setShape_6 : decode prog_5_method_5_code 6 = .ok (.iload_n 2, 1) := by decide +kernel
theorem d_Sl_setShape_7 : decode prog_5_method_5_code 7 = .ok (.putfield 45, 3) := by decide +kernel
theorem d_Sl_setShape_10 : decode prog_5_method_5_code 10 = .ok (.return_, 1) := by decide +kernel
theorem d_Sl_hasShape_0 : decode prog_5_method_6_code 0 = .ok (.aload_n 0, 1) := by decide +kernel
theorem d_Sl_hasShape_1 : decode prog_5_method_6_code 1 = .ok (.getfield 9, 3) := by decide +kernel
theorem d_Sl_hasShape_4 : decode prog_5_method_6_code 4 = .ok (.ifCond .eq 14, 3) := by decide +kernel
theorem d_Sl_hasShape_7 : decode prog_5_method_6_code 7 = .ok (.aload_n 0, 1) := by decide +kernel
theorem d_Sl_hasShape_8 : decode prog_5_method_6_code 8 = .ok (.getfield 42, 3) := by decide +kernel
theorem d_Sl_hasShape_11 : decode prog_5_method_6_code 11 = .ok (.ifCond .le 7, 3) := by decide +kernel
theorem d_Sl_hasShape_14 : decode prog_5_method_6_code 14 = .ok (.iconst 1, 1) := by decide +kernel
theorem d_Sl_hasShape_15 : decode prog_5_method_6_code 15 = .ok (.goto 4, 3) := by decide +kernel
theorem d_Sl_hasShape_18 : decode prog_5_method_6_code 18 = .ok (.iconst 0, 1) := by decide +kernel
theorem d_Sl_hasShape_19 : decode prog_5_method_6_code 19 = .ok (.ireturn, 1) := by decide +kernel
theorem d_Sl_hasTimer_0 : decode prog_5_method_7_code 0 = .ok (.aload_n 0, 1) := by decide +kernel
theorem d_Sl_hasTimer_1 : decode prog_5_method_7_code 1 = .ok (.getfield 9, 3) := by decide +kernel
theorem d_Sl_hasTimer_4 : decode prog_5_method_7_code 4 = .ok (.ifCond .eq 14, 3) := by decide +kernel
theorem d_Sl_hasTimer_7 : decode prog_5_method_7_code 7 = .ok (.aload_n 0, 1) := by decide +kernel
theorem d_Sl_hasTimer_8 : decode prog_5_method_7_code 8 = .ok (.getfield 29, 3) := by decide +kernel
theorem d_Sl_hasTimer_11 : decode prog_5_method_7_code 11 = .ok (.ifCond .le 7, 3) := by decide +kernel
theorem d_Sl_hasTimer_14 : decode prog_5_method_7_code 14 = .ok (.iconst 1, 1) := by decide +kernel
theorem d_Sl_hasTimer_15 : decode prog_5_method_7_code 15 = .ok (.goto 4, 3) := by decide +kernel
theorem d_Sl_hasTimer_18 : decode prog_5_method_7_code 18 = .ok (.iconst 0, 1) := by decide +kernel
theorem d_Sl_hasTimer_19 : decode prog_5_method_7_code 19 = .ok (.ireturn, 1) := by decide +kernel
theorem d_Sl_covers_0 : decode prog_5_method_8_code 0 = .ok (.aload_n 0, 1) := by decide +kernel
theorem d_Sl_covers_1 : decode prog_5_method_8_code 1 = .ok (.invokevirtual 48, 3) := by decide +kernel
theorem d_Sl_covers_4 : decode prog_5_method_8_code 4 = .ok (.ifCond .eq 37, 3) := by decide +kernel
theorem d_Sl_covers_7 : decode prog_5_method_8_code 7 = .ok (.aload_n 0, 1) := by decide +kernel
theorem d_Sl_covers_8 : decode prog_5_method_8_code 8 = .ok (.getfield 15, 3) := by decide +kernel
theorem d_Sl_covers_11 : decode prog_5_method_8_code 11 = .ok (.iload_n 1, 1) := by decide +kernel
theorem d_Sl_covers_12 : decode prog_5_method_8_code 12 = .ok (.aload_n 0, 1) := by decide +kernel
theorem d_Sl_covers_13 : decode prog_5_method_8_code 13 = .ok (.getfield 42, 3) := by decide +kernel
theorem d_Sl_covers_16 : decode prog_5_method_8_code 16 = .ok (.invokestatic 52, 3) := by decide +kernel
theorem d_Sl_covers_19 : decode prog_5_method_8_code 19 = .ok (.ifCond .eq 22, 3) := by decide +kernel
theorem d_Sl_covers_22 : decode prog_5_method_8_code 22 = .ok (.aload_n 0, 1) := by decide +kernel
theorem d_Sl_covers_23 : decode prog_5_method_8_code 23 = .ok (.getfield 19, 3) := by decide +kernel
theorem d_Sl_covers_26 : decode prog_5_method_8_code 26 = .ok (.iload_n 2, 1) := by decide +kernel
theorem d_Sl_covers_27 : decode prog_5_method_8_code 27 = .ok (.aload_n 0, 1) := by decide +kernel
theorem d_Sl_covers_28 : decode prog_5_method_8_code 28 = .ok (.getfield 45, 3) := by decide +kernel
theorem d_Sl_covers_31 : decode prog_5_method_8_code 31 = .ok (.invokestatic 52, 3) := by decide +kernel
theorem d_Sl_covers_34 : decode prog_5_method_8_code 34 = .ok (.ifCond .eq 7, 3) := by decide +kernel
theorem d_Sl_covers_37 : decode prog_5_method_8_code 37 = .ok (.iconst 1, 1) := by decide +kernel
theorem d_Sl_covers_38 : decode prog_5_method_8_code 38 = .ok (.goto 4, 3) := by decide +kernel
theorem d_Sl_covers_41 : decode prog_5_method_8_code 41 = .ok (.iconst 0, 1) := by decide +kernel
theorem d_Sl_covers_42 : decode prog_5_method_8_code 42 = .ok (.ireturn, 1) := by decide +kernel
theorem d_Sl_overlaps_0 : decode prog_5_method_9_code 0 = .ok (.aload_n 0, 1) := by decide +kernel
theorem d_Sl_overlaps_1 : decode prog_5_method_9_code 1 = .ok (.invokevirtual 48, 3) := by decide +kernel
theorem d_Sl_overlaps_4 : decode prog_5_method_9_code 4 = .ok (.ifCond .eq 60, 3) := by decide +kernel
theorem d_Sl_overlaps_7 : decode prog_5_method_9_code 7 = .ok (.aload_n 1, 1) := by decide +kernel
theorem d_Sl_overlaps_8 : decode prog_5_method_9_code 8 = .ok (.invokevirtual 48, 3) := by decide +kernel
theorem d_Sl_overlaps_11 : decode prog_5_method_9_code 11 = .ok (.ifCond .eq 53, 3) := by decide +kernel
theorem d_Sl_overlaps_14 : decode prog_5_method_9_code 14 = .ok (.aload_n 0, 1) := by decide +kernel
theorem d_Sl_overlaps_15 : decode prog_5_method_9_code 15 = .ok (.getfield 15, 3) := by decide +kernel
theorem d_Sl_overlaps_18 : decode prog_5_method_9_code 18 = .ok (.aload_n 1, 1) := by decide +kernel
theorem d_Sl_overlaps_19 : decode prog_5_method_9_code 19 = .ok (.getfield 15, 3) := by decide +kernel
theorem d_Sl_overlaps_22 : decode prog_5_method_9_code 22 = .ok (.aload_n 0, 1) := by decide +kernel
theorem d_Sl_overlaps_23 : decode prog_5_method_9_code 23 = .ok (.getfield 42, 3) := by decide +kernel
theorem d_Sl_overlaps_26 : decode prog_5_method_9_code 26 = .ok (.aload_n 1, 1) := by decide +kernel
theorem d_Sl_overlaps_27 : decode prog_5_method_9_code 27 = .ok (.getfield 42, 3) := by decide +kernel
theorem d_Sl_overlaps_30 : decode prog_5_method_9_code 30 = .ok (.iadd, 1) := by decide +kernel
theorem d_Sl_overlaps_31 : decode prog_5_method_9_code 31 = .ok (.invokestatic 52, 3) := by decide +kernel
theorem d_Sl_overlaps_34 : decode prog_5_method_9_code 34 = .ok (.ifCond .eq 30, 3) := by decide +kernel
theorem d_Sl_overlaps_37 : decode prog_5_method_9_code 37 = .ok (.aload_n 0, 1) := by decide +kernel
theorem d_Sl_overlaps_38 : decode prog_5_method_9_code 38 = .ok (.getfield 19, 3) := by decide +kernel
theorem d_Sl_overlaps_41 : decode prog_5_method_9_code 41 = .ok (.aload_n 1, 1) := by decide +kernel
theorem d_Sl_overlaps_42 : decode prog_5_method_9_code 42 = .ok (.getfield 19, 3) := by decide +kernel
theorem d_Sl_overlaps_45 : decode prog_5_method_9_code 45 = .ok (.aload_n 0, 1) := by decide +kernel
theorem d_Sl_overlaps_46 : decode prog_5_method_9_code 46 = .ok (.getfield 45, 3) := by decide +kernel
theorem d_Sl_overlaps_49 : decode prog_5_method_9_code 49 = .ok (.aload_n 1, 1) := by decide +kernel
theorem d_Sl_overlaps_50 : decode prog_5_method_9_code 50 = .ok (.getfield 45, 3) := by decide +kernel
theorem d_Sl_overlaps_53 : decode prog_5_method_9_code 53 = .ok (.iadd, 1) := by decide +kernel
theorem d_Sl_overlaps_54 : decode prog_5_method_9_code 54 = .ok (.invokestatic 52, 3) := by decide +kernel
theorem d_Sl_overlaps_57 : decode prog_5_method_9_code 57 = .ok (.ifCond .eq 7, 3) := by decide +kernel
theorem d_Sl_overlaps_60 : decode prog_5_method_9_code 60 = .ok (.iconst 1, 1) := by decide +kernel
theorem d_Sl_overlaps_61 : decode prog_5_method_9_code 61 = .ok (.goto 4, 3) := by decide +kernel
theorem d_Sl_overlaps_64 : decode prog_5_method_9_code 64 = .ok (.iconst 0, 1) := by decide +kernel
theorem d_Sl_overlaps_65 : decode prog_5_method_9_code 65 = .ok (.ireturn, 1) := by decide +kernel
theorem d_Sl_move_0 : decode prog_5_method_10_code 0 = .ok (.aload_n 0, 1) := by decide +kernel
theorem d_Sl_move_1 : decode prog_5_method_10_code 1 = .ok (.dup, 1) := by decide +kernel
theorem d_Sl_move_2 : decode prog_5_method_10_code 2 = .ok (.getfield 15, 3) := by decide +kernel
theorem d_Sl_move_5 : decode prog_5_method_10_code 5 = .ok (.aload_n 0, 1) := by decide +kernel
theorem d_Sl_move_6 : decode prog_5_method_10_code 6 = .ok (.getfield 36, 3) := by decide +kernel
theorem d_Sl_move_9 : decode prog_5_method_10_code 9 = .ok (.iadd, 1) := by decide +kernel
theorem d_Sl_move_10 : decode prog_5_method_10_code 10 = .ok (.putfield 15, 3) := by decide +kernel
theorem d_Sl_move_13 : decode prog_5_method_10_code 13 = .ok (.aload_n 0, 1) := by decide +kernel
theorem d_Sl_move_14 : decode prog_5_method_10_code 14 = .ok (.getfield 15, 3) := by decide +kernel
theorem d_Sl_move_17 : decode prog_5_method_10_code 17 = .ok (.iconst 0, 1) := by decide +kernel
theorem d_Sl_move_18 : decode prog_5_method_10_code 18 = .ok (.sipush 4095, 3) := by decide +kernel
theorem d_Sl_move_21 : decode prog_5_method_10_code 21 = .ok (.invokestatic 56, 3) := by decide +kernel
theorem d_Sl_move_24 : decode prog_5_method_10_code 24 = .ok (.ifCond .ne 23, 3) := by decide +kernel
theorem d_Sl_move_27 : decode prog_5_method_10_code 27 = .ok (.aload_n 0, 1) := by decide +kernel
theorem d_Sl_move_28 : decode prog_5_method_10_code 28 = .ok (.aload_n 0, 1) := by decide +kernel
theorem d_Sl_move_29 : decode prog_5_method_10_code 29 = .ok (.getfield 15, 3) := by decide +kernel
theorem d_Sl_move_32 : decode prog_5_method_10_code 32 = .ok (.invokestatic 59, 3) := by decide +kernel
theorem d_Sl_move_35 : decode prog_5_method_10_code 35 = .ok (.putfield 15, 3) := by decide +kernel
theorem d_Sl_move_38 : decode prog_5_method_10_code 38 = .ok (.aload_n 0, 1) := by decide +kernel
theorem d_Sl_move_39 : decode prog_5_method_10_code 39 = .ok (.aload_n 0, 1) := by decide +kernel
theorem d_Sl_move_40 : decode prog_5_method_10_code 40 = .ok (.getfield 36, 3) := by decide +kernel
theorem d_Sl_move_43 : decode prog_5_method_10_code 43 = .ok (.ineg, 1) := by decide +kernel
theorem d_Sl_move_44 : decode prog_5_method_10_code 44 = .ok (.putfield 36, 3) := by decide +kernel
theorem d_Sl_move_47 : decode prog_5_method_10_code 47 = .ok (.aload_n 0, 1) := by decide +kernel
theorem d_Sl_move_48 : decode prog_5_method_10_code 48 = .ok (.dup, 1) := by decide +kernel
theorem d_Sl_move_49 : decode prog_5_method_10_code 49 = .ok (.getfield 19, 3) := by decide +kernel
theorem d_Sl_move_52 : decode prog_5_method_10_code 52 = .ok (.aload_n 0, 1) := by decide +kernel
theorem d_Sl_move_53 : decode prog_5_method_10_code 53 = .ok (.getfield 39, 3) := by decide +kernel
theorem d_Sl_move_56 : decode prog_5_method_10_code 56 = .ok (.iadd, 1) := by decide +kernel
theorem d_Sl_move_57 : decode prog_5_method_10_code 57 = .ok (.putfield 19, 3) := by decide +kernel
theorem d_Sl_move_60 : decode prog_5_method_10_code 60 = .ok (.aload_n 0, 1) := by decide +kernel
theorem d_Sl_move_61 : decode prog_5_method_10_code 61 = .ok (.getfield 19, 3) := by decide +kernel
theorem d_Sl_move_64 : decode prog_5_method_10_code 64 = .ok (.iconst 0, 1) := by decide +kernel
theorem d_Sl_move_65 : decode prog_5_method_10_code 65 = .ok (.sipush 4095, 3) := by decide +kernel
theorem d_Sl_move_68 : decode prog_5_method_10_code 68 = .ok (.invokestatic 56, 3) := by decide +kernel
theorem d_Sl_move_71 : decode prog_5_method_10_code 71 = .ok (.ifCond .ne 23, 3) := by decide +kernel
theorem d_Sl_move_74 : decode prog_5_method_10_code 74 = .ok (.aload_n 0, 1) := by decide +kernel
theorem d_Sl_move_75 : decode prog_5_method_10_code 75 = .ok (.aload_n 0, 1) := by decide +kernel
theorem d_Sl_move_76 : decode prog_5_method_10_code 76 = .ok (.getfield 19, 3) := by decide +kernel
theorem d_Sl_move_79 : decode prog_5_method_10_code 79 = .ok (.invokestatic 59, 3) := by decide +kernel
theorem d_Sl_move_82 : decode prog_5_method_10_code 82 = .ok (.putfield 19, 3) := by decide +kernel
theorem d_Sl_move_85 : decode prog_5_method_10_code 85 = .ok (.aload_n 0, 1) := by decide +kernel
theorem d_Sl_move_86 : decode prog_5_method_10_code 86 = .ok (.aload_n 0, 1) := by decide +kernel
theorem d_Sl_move_87 : decode prog_5_method_10_code 87 = .ok (.getfield 39, 3) := by decide +kernel
theorem d_Sl_move_90 : decode prog_5_method_10_code 90 = .ok (.ineg, 1) := by decide +kernel
theorem d_Sl_move_91 : decode prog_5_method_10_code 91 = .ok (.putfield 39, 3) := by decide +kernel
theorem d_Sl_move_94 : decode prog_5_method_10_code 94 = .ok (.return_, 1) := by decide +kernel
theorem d_Sl_thrownBack_0 : decode prog_5_method_11_code 0 = .ok (.iload_n 0, 1) := by decide +kernel
theorem d_Sl_thrownBack_1 : decode prog_5_method_11_code 1 = .ok (.ifCond .ge 8, 3) := by decide +kernel
theorem d_Sl_thrownBack_4 : decode prog_5_method_11_code 4 = .ok (.iload_n 0, 1) := by decide +kernel
theorem d_Sl_thrownBack_5 : decode prog_5_method_11_code 5 = .ok (.ineg, 1) := by decide +kernel
theorem d_Sl_thrownBack_6 : decode prog_5_method_11_code 6 = .ok (.goto 8, 3) := by decide +kernel
theorem d_Sl_thrownBack_9 : decode prog_5_method_11_code 9 = .ok (.sipush 8190, 3) := by decide +kernel
theorem d_Sl_thrownBack_12 : decode prog_5_method_11_code 12 = .ok (.iload_n 0, 1) := by decide +kernel
theorem d_Sl_thrownBack_13 : decode prog_5_method_11_code 13 = .ok (.isub, 1) := by decide +kernel
theorem d_Sl_thrownBack_14 : decode prog_5_method_11_code 14 = .ok (.ireturn, 1) := by decide +kernel
theorem d_Sb_init_0 : decode prog_6_method_1_code 0 = .ok (.aload_n 0, 1) := by decide +kernel
theorem d_Sb_init_1 : decode prog_6_method_1_code 1 = .ok (.invokespecial 3, 3) := by decide +kernel
theorem d_Sb_init_4 : decode prog_6_method_1_code 4 = .ok (.aload_n 0, 1) := by decide +kernel
theorem d_Sb_init_5 : decode prog_6_method_1_code 5 = .ok (.new 9, 3) := by decide +kernel
theorem d_Sb_init_8 : decode prog_6_method_1_code 8 = .ok (.dup, 1) := by decide +kernel
theorem d_Sb_init_9 : decode prog_6_method_1_code 9 = .ok (.sipush 336, 3) := by decide +kernel
theorem d_Sb_init_12 : decode prog_6_method_1_code 12 = .ok (.invokespecial 11, 3) := by decide +kernel
theorem d_Sb_init_15 : decode prog_6_method_1_code 15 = .ok (.putfield 14, 3) := by decide +kernel
theorem d_Sb_init_18 : decode prog_6_method_1_code 18 = .ok (.return_, 1) := by decide +kernel
theorem d_Sb_write_0 : decode prog_6_method_2_code 0 = .ok (.aload_n 0, 1) := by decide +kernel
theorem d_Sb_write_1 : decode prog_6_method_2_code 1 = .ok (.getfield 14, 3) := by decide +kernel
theorem d_Sb_write_4 : decode prog_6_method_2_code 4 = .ok (.invokevirtual 20, 3) := by decide +kernel
theorem d_Sb_write_7 : decode prog_6_method_2_code 7 = .ok (.aload_n 0, 1) := by decide +kernel
theorem d_Sb_write_8 : decode prog_6_method_2_code 8 = .ok (.getfield 14, 3) := by decide +kernel
theorem d_Sb_write_11 : decode prog_6_method_2_code 11 = .ok (.bipush 84, 2) := by decide +kernel
theorem d_Sb_write_13 : decode prog_6_method_2_code 13 = .ok (.iconst 1, 1) := by decide +kernel
theorem d_Sb_write_14 : decode prog_6_method_2_code 14 = .ok (.invokevirtual 23, 3) := by decide +kernel
theorem d_Sb_write_17 : decode prog_6_method_2_code 17 = .ok (.aload_n 0, 1) := by decide +kernel
theorem d_Sb_write_18 : decode prog_6_method_2_code 18 = .ok (.getfield 14, 3) := by decide +kernel
theorem d_Sb_write_21 : decode prog_6_method_2_code 21 = .ok (.aload_n 1, 1) := by decide +kernel
theorem d_Sb_write_22 : decode prog_6_method_2_code 22 = .ok (.getfield 27, 3) := by decide +kernel
theorem d_Sb_write_25 : decode prog_6_method_2_code 25 = .ok (.iconst 4, 1) := by decide +kernel
theorem d_Sb_write_26 : decode prog_6_method_2_code 26 = .ok (.invokevirtual 23, 3) := by decide +kernel
theorem d_Sb_write_29 : decode prog_6_method_2_code 29 = .ok (.iconst 0, 1) := by decide +kernel
theorem d_Sb_write_30 : decode prog_6_method_2_code 30 = .ok (.istore_n 2, 1) := by decide +kernel
theorem d_Sb_write_31 : decode prog_6_method_2_code 31 = .ok (.iload_n 2, 1) := by decide +kernel
theorem d_Sb_write_32 : decode prog_6_method_2_code 32 = .ok (.bipush 16, 2) := by decide +kernel
theorem d_Sb_write_34 : decode prog_6_method_2_code 34 = .ok (.if_icmp .ge 19, 3) := by decide +kernel
theorem d_Sb_write_37 : decode prog_6_method_2_code 37 = .ok (.aload_n 0, 1) := by decide +kernel
theorem d_Sb_write_38 : decode prog_6_method_2_code 38 = .ok (.aload_n 1, 1) := by decide +kernel
theorem d_Sb_write_39 : decode prog_6_method_2_code 39 = .ok (.getfield 33, 3) := by decide +kernel
theorem d_Sb_write_42 : decode prog_6_method_2_code 42 = .ok (.iload_n 2, 1) := by decide +kernel
theorem d_Sb_write_43 : decode prog_6_method_2_code 43 = .ok (.aaload, 1) := by decide +kernel
theorem d_Sb_write_44 : decode prog_6_method_2_code 44 = .ok (.invokevirtual 37, 3) := by decide +kernel
theorem d_Sb_write_47 : decode prog_6_method_2_code 47 = .ok (.iinc 2 1, 3) := by decide +kernel
theorem d_Sb_write_50 : decode prog_6_method_2_code 50 = .ok (.goto (-19), 3) := by decide +kernel
theorem d_Sb_write_53 : decode prog_6_method_2_code 53 = .ok (.aload_n 0, 1) := by decide +kernel
theorem d_Sb_write_54 : decode prog_6_method_2_code 54 = .ok (.aload_n 1, 1) := by decide +kernel
theorem d_Sb_write_55 : decode prog_6_method_2_code 55 = .ok (.invokevirtual 41, 3) := by decide +kernel
theorem d_Sb_write_58 : decode prog_6_method_2_code 58 = .ok (.aload_n 0, 1) := by decide +kernel
theorem d_Sb_write_59 : decode prog_6_method_2_code 59 = .ok (.getfield 14, 3) := by decide +kernel
theorem d_Sb_write_62 : decode prog_6_method_2_code 62 = .ok (.aload_n 0, 1) := by decide +kernel
theorem d_Sb_write_63 : decode prog_6_method_2_code 63 = .ok (.getfield 14, 3) := by decide +kernel
theorem d_Sb_write_66 : decode prog_6_method_2_code 66 = .ok (.aload_n 0, 1) := by decide +kernel
theorem d_Sb_write_67 : decode prog_6_method_2_code 67 = .ok (.getfield 14, 3) := by decide +kernel
theorem d_Sb_write_70 : decode prog_6_method_2_code 70 = .ok (.getfield 45, 3) := by decide +kernel
theorem d_Sb_write_73 : decode prog_6_method_2_code 73 = .ok (.invokevirtual 48, 3) := by decide +kernel
theorem d_Sb_write_76 : decode prog_6_method_2_code 76 = .ok (.iconst 2, 1) := by decide +kernel
theorem d_Sb_write_77 : decode prog_6_method_2_code 77 = .ok (.invokevirtual 23, 3) := by decide +kernel
theorem d_Sb_write_80 : decode prog_6_method_2_code 80 = .ok (.return_, 1) := by decide +kernel
theorem d_Sb_writeSlot_0 : decode prog_6_method_3_code 0 = .ok (.aload_n 0, 1) := by decide +kernel
theorem d_Sb_writeSlot_1 : decode prog_6_method_3_code 1 = .ok (.getfield 14, 3) := by decide +kernel
theorem d_Sb_writeSlot_4 : decode prog_6_method_3_code 4 = .ok (.aload_n 1, 1) := by decide +kernel
theorem d_Sb_writeSlot_5 : decode prog_6_method_3_code 5 = .ok (.getfield 52, 3) := by decide +kernel
theorem d_Sb_writeSlot_8 : decode prog_6_method_3_code 8 = .ok (.iconst 2, 1) := by decide +kernel
theorem d_Sb_writeSlot_9 : decode prog_6_method_3_code 9 = .ok (.invokevirtual 23, 3) := by decide +kernel
theorem d_Sb_writeSlot_12 : decode prog_6_method_3_code 12 = .ok (.aload_n 0, 1) := by decide +kernel
theorem d_Sb_writeSlot_13 : decode prog_6_method_3_code 13 = .ok (.getfield 14, 3) := by decide +kernel
theorem d_Sb_writeSlot_16 : decode prog_6_method_3_code 16 = .ok (.aload_n 1, 1) := by decide +kernel
theorem d_Sb_writeSlot_17 : decode prog_6_method_3_code 17 = .ok (.invokestatic 57, 3) := by decide +kernel
theorem d_Sb_writeSlot_20 : decode prog_6_method_3_code 20 = .ok (.iconst 1, 1) := by decide +kernel
theorem d_Sb_writeSlot_21 : decode prog_6_method_3_code 21 = .ok (.invokevirtual 23, 3) := by decide +kernel
theorem d_Sb_writeSlot_24 : decode prog_6_method_3_code 24 = .ok (.aload_n 1, 1) := by decide +kernel
theorem d_Sb_writeSlot_25 : decode prog_6_method_3_code 25 = .ok (.getfield 61, 3) := by decide +kernel
theorem d_Sb_writeSlot_28 : decode prog_6_method_3_code 28 = .ok (.ifCond .eq 59, 3) := by decide +kernel
theorem d_Sb_writeSlot_31 : decode prog_6_method_3_code 31 = .ok (.aload_n 0, 1) := by decide +kernel
theorem d_Sb_writeSlot_32 : decode prog_6_method_3_code 32 = .ok (.getfield 14, 3) := by decide +kernel
theorem d_Sb_writeSlot_35 : decode prog_6_method_3_code 35 = .ok (.aload_n 1, 1) := by decide +kernel
theorem d_Sb_writeSlot_36 : decode prog_6_method_3_code 36 = .ok (.getfield 65, 3) := by decide +kernel
theorem d_Sb_writeSlot_39 : decode prog_6_method_3_code 39 = .ok (.iconst 2, 1) := by decide +kernel
theorem d_Sb_writeSlot_40 : decode prog_6_method_3_code 40 = .ok (.invokevirtual 23, 3) := by decide +kernel
theorem d_Sb_writeSlot_43 : decode prog_6_method_3_code 43 = .ok (.aload_n 0, 1) := by decide +kernel
theorem d_Sb_writeSlot_44 : decode prog_6_method_3_code 44 = .ok (.getfield 14, 3) := by decide +kernel
theorem d_Sb_writeSlot_47 : decode prog_6_method_3_code 47 = .ok (.aload_n 1, 1) := by decide +kernel
theorem d_Sb_writeSlot_48 : decode prog_6_method_3_code 48 = .ok (.getfield 68, 3) := by decide +kernel
theorem d_Sb_writeSlot_51 : decode prog_6_method_3_code 51 = .ok (.iconst 2, 1) := by decide +kernel
theorem d_Sb_writeSlot_52 : decode prog_6_method_3_code 52 = .ok (.invokevirtual 23, 3) := by decide +kernel
theorem d_Sb_writeSlot_55 : decode prog_6_method_3_code 55 = .ok (.aload_n 0, 1) := by decide +kernel
theorem d_Sb_writeSlot_56 : decode prog_6_method_3_code 56 = .ok (.getfield 14, 3) := by decide +kernel
theorem d_Sb_writeSlot_59 : decode prog_6_method_3_code 59 = .ok (.aload_n 1, 1) := by decide +kernel
theorem d_Sb_writeSlot_60 : decode prog_6_method_3_code 60 = .ok (.getfield 71, 3) := by decide +kernel
theorem d_Sb_writeSlot_63 : decode prog_6_method_3_code 63 = .ok (.sipush 128, 3) := by decide +kernel
theorem d_Sb_writeSlot_66 : decode prog_6_method_3_code 66 = .ok (.iadd, 1) := by decide +kernel
theorem d_Sb_writeSlot_67 : decode prog_6_method_3_code 67 = .ok (.iconst 1, 1) := by decide +kernel
theorem d_Sb_writeSlot_68 : decode prog_6_method_3_code 68 = .ok (.invokevirtual 23, 3) := by decide +kernel
theorem d_Sb_writeSlot_71 : decode prog_6_method_3_code 71 = .ok (.aload_n 0, 1) := by decide +kernel
theorem d_Sb_writeSlot_72 : decode prog_6_method_3_code 72 = .ok (.getfield 14, 3) := by decide +kernel
theorem d_Sb_writeSlot_75 : decode prog_6_method_3_code 75 = .ok (.aload_n 1, 1) := by decide +kernel
theorem d_Sb_writeSlot_76 : decode prog_6_method_3_code 76 = .ok (.getfield 74, 3) := by decide +kernel
theorem d_Sb_writeSlot_79 : decode prog_6_method_3_code 79 = .ok (.sipush 128, 3) := by decide +kernel
theorem d_Sb_writeSlot_82 : decode prog_6_method_3_code 82 = .ok (.iadd, 1) := by decide +kernel
theorem d_Sb_writeSlot_83 : decode prog_6_method_3_code 83 = .ok (.iconst 1, 1) := by decide +kernel
theorem d_Sb_writeSlot_84 : decode prog_6_method_3_code 84 = .ok (.invokevirtual 23, 3) := by decide +kernel
theorem d_Sb_writeSlot_87 : decode prog_6_method_3_code 87 = .ok (.aload_n 1, 1) := by decide +kernel
theorem d_Sb_writeSlot_88 : decode prog_6_method_3_code 88 = .ok (.invokevirtual 77, 3) := by decide +kernel
theorem d_Sb_writeSlot_91 : decode prog_6_method_3_code 91 = .ok (.ifCond .eq 27, 3) := by decide +kernel
theorem d_Sb_writeSlot_94 : decode prog_6_method_3_code 94 = .ok (.aload_n 0, 1) := by decide +kernel
theorem d_Sb_writeSlot_95 : decode prog_6_method_3_code 95 = .ok (.getfield 14, 3) := by decide +kernel
theorem d_Sb_writeSlot_98 : decode prog_6_method_3_code 98 = .ok (.aload_n 1, 1) := by decide +kernel
theorem d_Sb_writeSlot_99 : decode prog_6_method_3_code 99 = .ok (.getfield 81, 3) := by decide +kernel
theorem d_Sb_writeSlot_102 : decode prog_6_method_3_code 102 = .ok (.iconst 1, 1) := by decide +kernel
theorem d_Sb_writeSlot_103 : decode prog_6_method_3_code 103 = .ok (.invokevirtual 23, 3) := by decide +kernel
theorem d_Sb_writeSlot_106 : decode prog_6_method_3_code 106 = .ok (.aload_n 0, 1) := by decide +kernel
theorem d_Sb_writeSlot_107 : decode prog_6_method_3_code 107 = .ok (.getfield 14, 3) := by decide +kernel
theorem d_Sb_writeSlot_110 : decode prog_6_method_3_code 110 = .ok (.aload_n 1, 1) := by decide +kernel
theorem d_Sb_writeSlot_111 : decode prog_6_method_3_code 111 = .ok (.getfield 84, 3) := by decide +kernel
theorem d_Sb_writeSlot_114 : decode prog_6_method_3_code 114 = .ok (.iconst 1, 1) := by decide +kernel
theorem d_Sb_writeSlot_115 : decode prog_6_method_3_code 115 = .ok (.invokevirtual 23, 3) := by decide +kernel
theorem d_Sb_writeSlot_118 : decode prog_6_method_3_code 118 = .ok (.aload_n 1, 1) := by decide +kernel
theorem d_Sb_writeSlot_119 : decode prog_6_method_3_code 119 = .ok (.invokevirtual 87, 3) := by decide +kernel
theorem d_Sb_writeSlot_122 : decode prog_6_method_3_code 122 = .ok (.ifCond .eq 15, 3) := by decide +kernel
theorem d_Sb_writeSlot_125 : decode prog_6_method_3_code 125 = .ok (.aload_n 0, 1) := by decide +kernel
theorem d_Sb_writeSlot_126 : decode prog_6_method_3_code 126 = .ok (.getfield 14, 3) := by decide +kernel
theorem d_Sb_writeSlot_129 : decode prog_6_method_3_code 129 = .ok (.aload_n 1, 1) := by decide +kernel
theorem d_Sb_writeSlot_130 : decode prog_6_method_3_code 130 = .ok (.getfield 90, 3) := by decide +kernel
theorem d_Sb_writeSlot_133 : decode prog_6_method_3_code 133 = .ok (.iconst 2, 1) := by decide +kernel
theorem d_Sb_writeSlot_134 : decode prog_6_method_3_code 134 = .ok (.invokevirtual 23, 3) := by decide +kernel
theorem d_Sb_writeSlot_137 : decode prog_6_method_3_code 137 = .ok (.return_, 1) := by decide +kernel
theorem d_Sb_kindOf_0 : decode prog_6_method_4_code 0 = .ok (.aload_n 0, 1) := by decide +kernel
theorem d_Sb_kindOf_1 : decode prog_6_method_4_code 1 = .ok (.getfield 61, 3) := by decide +kernel
theorem d_Sb_kindOf_4 : decode prog_6_method_4_code 4 = .ok (.ifCond .ne 5, 3) := by decide +kernel
theorem d_Sb_kindOf_7 : decode prog_6_method_4_code 7 = .ok (.iconst 0, 1) := by decide +kernel
theorem d_Sb_kindOf_8 : decode prog_6_method_4_code 8 = .ok (.ireturn, 1) := by decide +kernel
theorem d_Sb_kindOf_9 : decode prog_6_method_4_code 9 = .ok (.iconst 1, 1) := by decide +kernel
theorem d_Sb_kindOf_10 : decode prog_6_method_4_code 10 = .ok (.aload_n 0, 1) := by decide +kernel
theorem d_Sb_kindOf_11 : decode prog_6_method_4_code 11 = .ok (.invokevirtual 77, 3) := by decide +kernel
theorem d_Sb_kindOf_14 : decode prog_6_method_4_code 14 = .ok (.ifCond .eq 7, 3) := by decide +kernel
theorem d_Sb_kindOf_17 : decode prog_6_method_4_code 17 = .ok (.iconst 2, 1) := by decide +kernel
theorem d_Sb_kindOf_18 : decode prog_6_method_4_code 18 = .ok (.goto 4, 3) := by decide +kernel
theorem d_Sb_kindOf_21 : decode prog_6_method_4_code 21 = .ok (.iconst 0, 1) := by decide +kernel
theorem d_Sb_kindOf_22 : decode prog_6_method_4_code 22 = .ok (.iadd, 1) := by decide +kernel
theorem d_Sb_kindOf_23 : decode prog_6_method_4_code 23 = .ok (.aload_n 0, 1) := by decide +kernel
theorem d_Sb_kindOf_24 : decode prog_6_method_4_code 24 = .ok (.invokevirtual 87, 3) := by decide +kernel
theorem d_Sb_kindOf_27 : decode prog_6_method_4_code 27 = .ok (.ifCond .eq 7, 3) := by decide +kernel
theorem d_Sb_kindOf_30 : decode prog_6_method_4_code 30 = .ok (.iconst 4, 1) := by decide +kernel
theorem d_Sb_kindOf_31 : decode prog_6_method_4_code 31 = .ok (.goto 4, 3) := by decide +kernel
theorem d_Sb_kindOf_34 : decode prog_6_method_4_code 34 = .ok (.iconst 0, 1) := by decide +kernel
theorem d_Sb_kindOf_35 : decode prog_6_method_4_code 35 = .ok (.iadd, 1) := by decide +kernel
theorem d_Sb_kindOf_36 : decode prog_6_method_4_code 36 = .ok (.ireturn, 1) := by decide +kernel
theorem d_Sb_writePairs_0 : decode prog_6_method_5_code 0 = .ok (.aload_n 0, 1) := by decide +kernel
theorem d_Sb_writePairs_1 : decode prog_6_method_5_code 1 = .ok (.getfield 14, 3) := by decide +kernel
theorem d_Sb_writePairs_4 : decode prog_6_method_5_code 4 = .ok (.aload_n 1, 1) := by decide +kernel
theorem d_Sb_writePairs_5 : decode prog_6_method_5_code 5 = .ok (.invokevirtual 93, 3) := by decide +kernel
theorem d_Sb_writePairs_8 : decode prog_6_method_5_code 8 = .ok (.iconst 1, 1) := by decide +kernel
theorem d_Sb_writePairs_9 : decode prog_6_method_5_code 9 = .ok (.invokevirtual 23, 3) := by decide +kernel
theorem d_Sb_writePairs_12 : decode prog_6_method_5_code 12 = .ok (.iconst 0, 1) := by decide +kernel
theorem d_Sb_writePairs_13 : decode prog_6_method_5_code 13 = .ok (.istore_n 2, 1) := by decide +kernel
theorem d_Sb_writePairs_14 : decode prog_6_method_5_code 14 = .ok (.iload_n 2, 1) := by decide +kernel
theorem d_Sb_writePairs_15 : decode prog_6_method_5_code 15 = .ok (.sipush 256, 3) := by decide +kernel
theorem d_Sb_writePairs_18 : decode prog_6_method_5_code 18 = .ok (.if_icmp .ge 27, 3) := by decide +kernel
theorem d_Sb_writePairs_21 : decode prog_6_method_5_code 21 = .ok (.aload_n 1, 1) := by decide +kernel
theorem d_Sb_writePairs_22 : decode prog_6_method_5_code 22 = .ok (.getfield 97, 3) := by decide +kernel
theorem d_Sb_writePairs_25 : decode prog_6_method_5_code 25 = .ok (.iload_n 2, 1) := by decide +kernel
theorem d_Sb_writePairs_26 : decode prog_6_method_5_code 26 = .ok (.baload, 1) := by decide +kernel
theorem d_Sb_writePairs_27 : decode prog_6_method_5_code 27 = .ok (.ifCond .eq 12, 3) := by decide +kernel
theorem d_Sb_writePairs_30 : decode prog_6_method_5_code 30 = .ok (.aload_n 0, 1) := by decide +kernel
theorem d_Sb_writePairs_31 : decode prog_6_method_5_code 31 = .ok (.getfield 14, 3) := by decide +kernel
theorem d_Sb_writePairs_34 : decode prog_6_method_5_code 34 = .ok (.iload_n 2, 1) := by decide +kernel
theorem d_Sb_writePairs_35 : decode prog_6_method_5_code 35 = .ok (.iconst 1, 1) := by decide +kernel
theorem d_Sb_writePairs_36 : decode prog_6_method_5_code 36 = .ok (.invokevirtual 23, 3) := by decide +kernel
theorem d_Sb_writePairs_39 : decode prog_6_method_5_code 39 = .ok (.iinc 2 1, 3) := by decide +kernel
theorem d_Sb_writePairs_42 : decode prog_6_method_5_code 42 = .ok (.goto (-28), 3) := by decide +kernel
theorem d_Sb_writePairs_45 : decode prog_6_method_5_code 45 = .ok (.return_, 1) := by decide +kernel
theorem d_Sb_readInto_0 : decode prog_6_method_6_code 0 = .ok (.aload_n 0, 1) := by decide +kernel
theorem d_Sb_readInto_1 : decode prog_6_method_6_code 1 = .ok (.getfield 14, 3) := by decide +kernel
theorem d_Sb_readInto_4 : decode prog_6_method_6_code 4 = .ok (.iconst 0, 1) := by decide +kernel
theorem d_Sb_readInto_5 : decode prog_6_method_6_code 5 = .ok (.putfield 101, 3) := by decide +kernel
theorem d_Sb_readInto_8 : decode prog_6_method_6_code 8 = .ok (.aload_n 0, 1) := by decide +kernel
theorem d_Sb_readInto_9 : decode prog_6_method_6_code 9 = .ok (.aload_n 1, 1) := by decide +kernel
theorem d_Sb_readInto_10 : decode prog_6_method_6_code 10 = .ok (.invokevirtual 104, 3) := by decide +kernel
theorem d_Sb_readInto_13 : decode prog_6_method_6_code 13 = .ok (.ifCond .eq 30, 3) := by decide +kernel
theorem d_Sb_readInto_16 : decode prog_6_method_6_code 16 = .ok (.aload_n 0, 1) := by decide +kernel
theorem d_Sb_readInto_17 : decode prog_6_method_6_code 17 = .ok (.aload_n 1, 1) := by decide +kernel
theorem d_Sb_readInto_18 : decode prog_6_method_6_code 18 = .ok (.invokevirtual 108, 3) := by decide +kernel
theorem d_Sb_readInto_21 : decode prog_6_method_6_code 21 = .ok (.ifCond .eq 22, 3) := by decide +kernel
theorem d_Sb_readInto_24 : decode prog_6_method_6_code 24 = .ok (.aload_n 0, 1) := by decide +kernel
theorem d_Sb_readInto_25 : decode prog_6_method_6_code 25 = .ok (.aload_n 1, 1) := by decide +kernel
theorem d_Sb_readInto_26 : decode prog_6_method_6_code 26 = .ok (.invokevirtual 111, 3) := by decide +kernel
theorem d_Sb_readInto_29 : decode prog_6_method_6_code 29 = .ok (.ifCond .eq 14, 3) := by decide +kernel
theorem d_Sb_readInto_32 : decode prog_6_method_6_code 32 = .ok (.aload_n 0, 1) := by decide +kernel
theorem d_Sb_readInto_33 : decode prog_6_method_6_code 33 = .ok (.invokevirtual 114, 3) := by decide +kernel
theorem d_Sb_readInto_36 : decode prog_6_method_6_code 36 = .ok (.ifCond .eq 7, 3) := by decide +kernel
theorem d_Sb_readInto_39 : decode prog_6_method_6_code 39 = .ok (.iconst 1, 1) := by decide +kernel
theorem d_Sb_readInto_40 : decode prog_6_method_6_code 40 = .ok (.goto 4, 3) := by decide +kernel
theorem d_Sb_readInto_43 : decode prog_6_method_6_code 43 = .ok (.iconst 0, 1) := by decide +kernel
theorem d_Sb_readInto_44 : decode prog_6_method_6_code 44 = .ok (.ireturn, 1) := by decide +kernel
theorem d_Sb_readHead_0 : decode prog_6_method_7_code 0 = .ok (.aload_n 0, 1) := by decide +kernel
theorem d_Sb_readHead_1 : decode prog_6_method_7_code 1 = .ok (.getfield 14, 3) := by decide +kernel
theorem d_Sb_readHead_4 : decode prog_6_method_7_code 4 = .ok (.iconst 1, 1) := by decide +kernel
theorem d_Sb_readHead_5 : decode prog_6_method_7_code 5 = .ok (.invokevirtual 117, 3) := by decide +kernel
theorem d_Sb_readHead_8 : decode prog_6_method_7_code 8 = .ok (.bipush 84, 2) := by decide +kernel
theorem d_Sb_readHead_10 : decode prog_6_method_7_code 10 = .ok (.if_icmp .ne 7, 3) := by decide +kernel
theorem d_Sb_readHead_13 : decode prog_6_method_7_code 13 = .ok (.iconst 1, 1) := by decide +kernel
theorem d_Sb_readHead_14 : decode prog_6_method_7_code 14 = .ok (.goto 4, 3) := by decide +kernel
theorem d_Sb_readHead_17 : decode prog_6_method_7_code 17 = .ok (.iconst 0, 1) := by decide +kernel
theorem d_Sb_readHead_18 : decode prog_6_method_7_code 18 = .ok (.istore_n 2, 1) := by decide +kernel
theorem d_Sb_readHead_19 : decode prog_6_method_7_code 19 = .ok (.aload_n 1, 1) := by decide +kernel
theorem d_Sb_readHead_20 : decode prog_6_method_7_code 20 = .ok (.aload_n 0, 1) := by decide +kernel
theorem d_Sb_readHead_21 : decode prog_6_method_7_code 21 = .ok (.getfield 14, 3) := by decide +kernel
theorem d_Sb_readHead_24 : decode prog_6_method_7_code 24 = .ok (.iconst 4, 1) := by decide +kernel
theorem d_Sb_readHead_25 : decode prog_6_method_7_code 25 = .ok (.invokevirtual 117, 3) := by decide +kernel
theorem d_Sb_readHead_28 : decode prog_6_method_7_code 28 = .ok (.putfield 27, 3) := by decide +kernel
theorem d_Sb_readHead_31 : decode prog_6_method_7_code 31 = .ok (.iload_n 2, 1) := by decide +kernel
theorem d_Sb_readHead_32 : decode prog_6_method_7_code 32 = .ok (.ifCond .eq 14, 3) := by decide +kernel
theorem d_Sb_readHead_35 : decode prog_6_method_7_code 35 = .ok (.aload_n 1, 1) := by decide +kernel
theorem d_Sb_readHead_36 : decode prog_6_method_7_code 36 = .ok (.getfield 27, 3) := by decide +kernel
theorem d_Sb_readHead_39 : decode prog_6_method_7_code 39 = .ok (.ifCond .lt 7, 3) := by decide +kernel
theorem d_Sb_readHead_42 : decode prog_6_method_7_code 42 = .ok (.iconst 1, 1) := by decide +kernel
theorem d_Sb_readHead_43 : decode prog_6_method_7_code 43 = .ok (.goto 4, 3) := by decide +kernel
theorem d_Sb_readHead_46 : decode prog_6_method_7_code 46 = .ok (.iconst 0, 1) := by decide +kernel
theorem d_Sb_readHead_47 : decode prog_6_method_7_code 47 = .ok (.ireturn, 1) := by decide +kernel
theorem d_Sb_readSlots_0 : decode prog_6_method_8_code 0 = .ok (.iconst 0, 1) := by decide +kernel
theorem d_Sb_readSlots_1 : decode prog_6_method_8_code 1 = .ok (.istore_n 2, 1) := by decide +kernel
theorem d_Sb_readSlots_2 : decode prog_6_method_8_code 2 = .ok (.iload_n 2, 1) := by decide +kernel
theorem d_Sb_readSlots_3 : decode prog_6_method_8_code 3 = .ok (.bipush 16, 2) := by decide +kernel
theorem d_Sb_readSlots_5 : decode prog_6_method_8_code 5 = .ok (.if_icmp .ge 24, 3) := by decide +kernel
theorem d_Sb_readSlots_8 : decode prog_6_method_8_code 8 = .ok (.aload_n 0, 1) := by decide +kernel
theorem d_Sb_readSlots_9 : decode prog_6_method_8_code 9 = .ok (.aload_n 1, 1) := by decide +kernel
theorem d_Sb_readSlots_10 : decode prog_6_method_8_code 10 = .ok (.getfield 33, 3) := by decide +kernel
theorem d_Sb_readSlots_13 : decode prog_6_method_8_code 13 = .ok (.iload_n 2, 1) := by decide +kernel
theorem d_Sb_readSlots_14 : decode prog_6_method_8_code 14 = .ok (.aaload, 1) := by decide +kernel
theorem d_Sb_readSlots_15 : decode prog_6_method_8_code 15 = .ok (.invokevirtual 120, 3) := by decide +kernel
theorem d_Sb_readSlots_18 : decode prog_6_method_8_code 18 = .ok (.ifCond .ne 5, 3) := by decide +kernel
theorem d_Sb_readSlots_21 : decode prog_6_method_8_code 21 = .ok (.iconst 0, 1) := by decide +kernel
theorem d_Sb_readSlots_22 : decode prog_6_method_8_code 22 = .ok (.ireturn, 1) := by decide +kernel
theorem d_Sb_readSlots_23 : decode prog_6_method_8_code 23 = .ok (.iinc 2 1, 3) := by decide +kernel
theorem d_Sb_readSlots_26 : decode prog_6_method_8_code 26 = .ok (.goto (-24), 3) := by decide +kernel
theorem d_Sb_readSlots_29 : decode prog_6_method_8_code 29 = .ok (.iconst 1, 1) := by decide +kernel
theorem d_Sb_readSlots_30 : decode prog_6_method_8_code 30 = .ok (.ireturn, 1) := by decide +kernel
theorem d_Sb_readSlot_0 : decode prog_6_method_9_code 0 = .ok (.aload_n 1, 1) := by decide +kernel
theorem d_Sb_readSlot_1 : decode prog_6_method_9_code 1 = .ok (.aload_n 0, 1) := by decide +kernel
theorem d_Sb_readSlot_2 : decode prog_6_method_9_code 2 = .ok (.getfield 14, 3) := by decide +kernel
theorem d_Sb_readSlot_5 : decode prog_6_method_9_code 5 = .ok (.iconst 2, 1) := by decide +kernel
theorem d_Sb_readSlot_6 : decode prog_6_method_9_code 6 = .ok (.invokevirtual 117, 3) := by decide +kernel
theorem d_Sb_readSlot_9 : decode prog_6_method_9_code 9 = .ok (.putfield 52, 3) := by decide +kernel
theorem d_Sb_readSlot_12 : decode prog_6_method_9_code 12 = .ok (.aload_n 0, 1) := by decide +kernel
theorem d_Sb_readSlot_13 : decode prog_6_method_9_code 13 = .ok (.getfield 14, 3) := by decide +kernel
theorem d_Sb_readSlot_16 : decode prog_6_method_9_code 16 = .ok (.iconst 1, 1) := by decide +kernel
theorem d_Sb_readSlot_17 : decode prog_6_method_9_code 17 = .ok (.invokevirtual 117, 3) := by decide +kernel
theorem d_Sb_readSlot_20 : decode prog_6_method_9_code 20 = .ok (.istore_n 2, 1) := by decide +kernel
theorem d_Sb_readSlot_21 : decode prog_6_method_9_code 21 = .ok (.aload_n 1, 1) := by decide +kernel
theorem d_Sb_readSlot_22 : decode prog_6_method_9_code 22 = .ok (.iload_n 2, 1) := by decide +kernel
theorem d_Sb_readSlot_23 : decode prog_6_method_9_code 23 = .ok (.ifCond .eq 7, 3) := by decide +kernel
theorem d_Sb_readSlot_26 : decode prog_6_method_9_code 26 = .ok (.iconst 1, 1) := by decide +kernel
theorem d_Sb_readSlot_27 : decode prog_6_method_9_code 27 = .ok (.goto 4, 3) := by decide +kernel
theorem d_Sb_readSlot_30 : decode prog_6_method_9_code 30 = .ok (.iconst 0, 1) := by decide +kernel
theorem d_Sb_readSlot_31 : decode prog_6_method_9_code 31 = .ok (.putfield 61, 3) := by decide +kernel
theorem d_Sb_readSlot_34 : decode prog_6_method_9_code 34 = .ok (.iload_n 2, 1) := by decide +kernel
theorem d_Sb_readSlot_35 : decode prog_6_method_9_code 35 = .ok (.ifCond .ne 5, 3) := by decide +kernel
theorem d_Sb_readSlot_38 : decode prog_6_method_9_code 38 = .ok (.iconst 1, 1) := by decide +kernel
theorem d_Sb_readSlot_39 : decode prog_6_method_9_code 39 = .ok (.ireturn, 1) := by decide +kernel
theorem d_Sb_readSlot_40 : decode prog_6_method_9_code 40 = .ok (.iload_n 2, 1) := by decide +kernel
theorem d_Sb_readSlot_41 : decode prog_6_method_9_code 41 = .ok (.iconst 1, 1) := by decide +kernel
theorem d_Sb_readSlot_42 : decode prog_6_method_9_code 42 = .ok (.bipush 7, 2) := by decide +kernel
theorem d_Sb_readSlot_44 : decode prog_6_method_9_code 44 = .ok (.invokestatic 124, 3) := by decide +kernel
theorem d_Sb_readSlot_47 : decode prog_6_method_9_code 47 = .ok (.ifCond .eq 13, 3) := by decide +kernel
theorem d_Sb_readSlot_50 : decode prog_6_method_9_code 50 = .ok (.iload_n 2, 1) := by decide +kernel
theorem d_Sb_readSlot_51 : decode prog_6_method_9_code 51 = .ok (.iconst 1, 1) := by decide +kernel
theorem d_Sb_readSlot_52 : decode prog_6_method_9_code 52 = .ok (.iand, 1) := by decide +kernel
theorem d_Sb_readSlot_53 : decode prog_6_method_9_code 53 = .ok (.ifCond .eq 7, 3) := by decide +kernel
theorem d_Sb_readSlot_56 : decode prog_6_method_9_code 56 = .ok (.iconst 1, 1) := by decide +kernel
theorem d_Sb_readSlot_57 : decode prog_6_method_9_code 57 = .ok (.goto 4, 3) := by decide +kernel
theorem d_Sb_readSlot_60 : decode prog_6_method_9_code 60 = .ok (.iconst 0, 1) := by decide +kernel
theorem d_Sb_readSlot_61 : decode prog_6_method_9_code 61 = .ok (.istore_n 3, 1) := by decide +kernel
theorem d_Sb_readSlot_62 : decode prog_6_method_9_code 62 = .ok (.iload_n 3, 1) := by decide +kernel
theorem d_Sb_readSlot_63 : decode prog_6_method_9_code 63 = .ok (.ifCond .eq 53, 3) := by decide +kernel
theorem d_Sb_readSlot_66 : decode prog_6_method_9_code 66 = .ok (.aload_n 0, 1) := by decide +kernel
theorem d_Sb_readSlot_67 : decode prog_6_method_9_code 67 = .ok (.aload_n 1, 1) := by decide +kernel
theorem d_Sb_readSlot_68 : decode prog_6_method_9_code 68 = .ok (.invokevirtual 128, 3) := by decide +kernel
theorem d_Sb_readSlot_71 : decode prog_6_method_9_code 71 = .ok (.ifCond .eq 45, 3) := by decide +kernel
theorem d_Sb_readSlot_74 : decode prog_6_method_9_code 74 = .ok (.aload_n 0, 1) := by decide +kernel
theorem d_Sb_readSlot_75 : decode prog_6_method_9_code 75 = .ok (.aload_n 1, 1) := by decide +kernel
theorem d_Sb_readSlot_76 : decode prog_6_method_9_code 76 = .ok (.iload_n 2, 1) := by decide +kernel
theorem d_Sb_readSlot_77 : decode prog_6_method_9_code 77 = .ok (.iconst 2, 1) := by decide +kernel
theorem d_Sb_readSlot_78 : decode prog_6_method_9_code 78 = .ok (.iand, 1) := by decide +kernel
theorem d_Sb_readSlot_79 : decode prog_6_method_9_code 79 = .ok (.ifCond .eq 7, 3) := by decide +kernel
theorem d_Sb_readSlot_82 : decode prog_6_method_9_code 82 = .ok (.iconst 1, 1) := by decide +kernel
theorem d_Sb_readSlot_83 : decode prog_6_method_9_code 83 = .ok (.goto 4, 3) := by decide +kernel
theorem d_Sb_readSlot_86 : decode prog_6_method_9_code 86 = .ok (.iconst 0, 1) := by decide +kernel
theorem d_Sb_readSlot_87 : decode prog_6_method_9_code 87 = .ok (.invokevirtual 131, 3) := by decide +kernel
theorem d_Sb_readSlot_90 : decode prog_6_method_9_code 90 = .ok (.ifCond .eq 26, 3) := by decide +kernel
theorem d_Sb_readSlot_93 : decode prog_6_method_9_code 93 = .ok (.aload_n 0, 1) := by decide +kernel
theorem d_Sb_readSlot_94 : decode prog_6_method_9_code 94 = .ok (.aload_n 1, 1) := by decide +kernel
theorem d_Sb_readSlot_95 : decode prog_6_method_9_code 95 = .ok (.iload_n 2, 1) := by decide +kernel
theorem d_Sb_readSlot_96 : decode prog_6_method_9_code 96 = .ok (.iconst 4, 1) := by decide +kernel
theorem d_Sb_readSlot_97 : decode prog_6_method_9_code 97 = .ok (.iand, 1) := by decide +kernel
theorem d_Sb_readSlot_98 : decode prog_6_method_9_code 98 = .ok (.ifCond .eq 7, 3) := by decide +kernel
theorem d_Sb_readSlot_101 : decode prog_6_method_9_code 101 = .ok (.iconst 1, 1) := by decide +kernel
theorem d_Sb_readSlot_102 : decode prog_6_method_9_code 102 = .ok (.goto 4, 3) := by decide +kernel
theorem d_Sb_readSlot_105 : decode prog_6_method_9_code 105 = .ok (.iconst 0, 1) := by decide +kernel
theorem d_Sb_readSlot_106 : decode prog_6_method_9_code 106 = .ok (.invokevirtual 135, 3) := by decide +kernel
theorem d_Sb_readSlot_109 : decode prog_6_method_9_code 109 = .ok (.ifCond .eq 7, 3) := by decide +kernel
theorem d_Sb_readSlot_112 : decode prog_6_method_9_code 112 = .ok (.iconst 1, 1) := by decide +kernel
theorem d_Sb_readSlot_113 : decode prog_6_method_9_code 113 = .ok (.goto 4, 3) := by decide +kernel
theorem d_Sb_readSlot_116 : decode prog_6_method_9_code 116 = .ok (.iconst 0, 1) := by decide +kernel
theorem d_Sb_readSlot_117 : decode prog_6_method_9_code 117 = .ok (.ireturn, 1) := by decide +kernel
theorem d_Sb_readThing_0 : decode prog_6_method_10_code 0 = .ok (.aload_n 0, 1) := by decide +kernel
theorem d_Sb_readThing_1 : decode prog_6_method_10_code 1 = .ok (.getfield 14, 3) := by decide +kernel
theorem d_Sb_readThing_4 : decode prog_6_method_10_code 4 = .ok (.iconst 2, 1) := by decide +kernel
theorem d_Sb_readThing_5 : decode prog_6_method_10_code 5 = .ok (.invokevirtual 117, 3) := by decide +kernel
theorem d_Sb_readThing_8 : decode prog_6_method_10_code 8 = .ok (.istore_n 2, 1) := by decide +kernel
theorem d_Sb_readThing_9 : decode prog_6_method_10_code 9 = .ok (.aload_n 0, 1) := by decide +kernel
theorem d_Sb_readThing_10 : decode prog_6_method_10_code 10 = .ok (.getfield 14, 3) := by decide +kernel
theorem d_Sb_readThing_13 : decode prog_6_method_10_code 13 = .ok (.iconst 2, 1) := by decide +kernel
theorem d_Sb_readThing_14 : decode prog_6_method_10_code 14 = .ok (.invokevirtual 117, 3) := by decide +kernel
theorem d_Sb_readThing_17 : decode prog_6_method_10_code 17 = .ok (.istore_n 3, 1) := by decide +kernel
theorem d_Sb_readThing_18 : decode prog_6_method_10_code 18 = .ok (.aload_n 1, 1) := by decide +kernel
theorem d_Sb_readThing_19 : decode prog_6_method_10_code 19 = .ok (.iload_n 2, 1) := by decide +kernel
theorem d_Sb_readThing_20 : decode prog_6_method_10_code 20 = .ok (.iload_n 3, 1) := by decide +kernel
theorem d_Sb_readThing_21 : decode prog_6_method_10_code 21 = .ok (.invokevirtual 138, 3) := by decide +kernel
theorem d_Sb_readThing_24 : decode prog_6_method_10_code 24 = .ok (.aload_n 0, 1) := by decide +kernel
theorem d_Sb_readThing_25 : decode prog_6_method_10_code 25 = .ok (.getfield 14, 3) := by decide +kernel
theorem d_Sb_readThing_28 : decode prog_6_method_10_code 28 = .ok (.iconst 1, 1) := by decide +kernel
theorem d_Sb_readThing_29 : decode prog_6_method_10_code 29 = .ok (.invokevirtual 117, 3) := by decide +kernel
theorem d_Sb_readThing_32 : decode prog_6_method_10_code 32 = .ok (.sipush 128, 3) := by decide +kernel
theorem d_Sb_readThing_35 : decode prog_6_method_10_code 35 = .ok (.isub, 1) := by decide +kernel
theorem d_Sb_readThing_36 : decode prog_6_method_10_code 36 = .ok (.istore 4, 2) := by decide +kernel
theorem d_Sb_readThing_38 : decode prog_6_method_10_code 38 = .ok (.aload_n 0, 1) := by decide +kernel
theorem d_Sb_readThing_39 : decode prog_6_method_10_code 39 = .ok (.getfield 14, 3) := by decide +kernel
theorem d_Sb_readThing_42 : decode prog_6_method_10_code 42 = .ok (.iconst 1, 1) := by decide +kernel
theorem d_Sb_readThing_43 : decode prog_6_method_10_code 43 = .ok (.invokevirtual 117, 3) := by decide +kernel
theorem d_Sb_readThing_46 : decode prog_6_method_10_code 46 = .ok (.sipush 128, 3) := by decide +kernel
theorem d_Sb_readThing_49 : decode prog_6_method_10_code 49 = .ok (.isub, 1) := by decide +kernel
theorem d_Sb_readThing_50 : decode prog_6_method_10_code 50 = .ok (.istore 5, 2) := by decide +kernel
theorem d_Sb_readThing_52 : decode prog_6_method_10_code 52 = .ok (.aload_n 1, 1) := by decide +kernel
theorem d_Sb_readThing_53 : decode prog_6_method_10_code 53 = .ok (.iload 4, 2) := by decide +kernel
theorem d_Sb_readThing_55 : decode prog_6_method_10_code 55 = .ok (.iload 5, 2) := by decide +kernel
theorem d_Sb_readThing_57 : decode prog_6_method_10_code 57 = .ok (.invokevirtual 141, 3) := by decide +kernel
theorem d_Sb_readThing_60 : decode prog_6_method_10_code 60 = .ok (.iload_n 2, 1) := by decide +kernel
theorem d_Sb_readThing_61 : decode prog_6_method_10_code 61 = .ok (.iload_n 3, 1) := by decide +kernel
theorem d_Sb_readThing_62 : decode prog_6_method_10_code 62 = .ok (.invokestatic 144, 3) := by decide +kernel
theorem d_Sb_readThing_65 : decode prog_6_method_10_code 65 = .ok (.ifCond .eq 17, 3) := by decide +kernel
theorem d_Sb_readThing_68 : decode prog_6_method_10_code 68 = .ok (.iload 4, 2) := by decide +kernel
theorem d_Sb_readThing_70 : decode prog_6_method_10_code 70 = .ok (.iload 5, 2) := by decide +kernel
theorem d_Sb_readThing_72 : decode prog_6_method_10_code 72 = .ok (.invokestatic 148, 3) := by decide +kernel
theorem d_Sb_readThing_75 : decode prog_6_method_10_code 75 = .ok (.ifCond .eq 7, 3) := by decide +kernel
theorem d_Sb_readThing_78 : decode prog_6_method_10_code 78 = .ok (.iconst 1, 1) := by decide +kernel
theorem d_Sb_readThing_79 : decode prog_6_method_10_code 79 = .ok (.goto 4, 3) := by decide +kernel
theorem d_Sb_readThing_82 : decode prog_6_method_10_code 82 = .ok (.iconst 0, 1) := by decide +kernel
theorem d_Sb_readThing_83 : decode prog_6_method_10_code 83 = .ok (.ireturn, 1) := by decide +kernel
theorem d_Sb_readShape_0 : decode prog_6_method_11_code 0 = .ok (.iload_n 2, 1) := by decide +kernel
theorem d_Sb_readShape_1 : decode prog_6_method_11_code 1 = .ok (.ifCond .ne 5, 3) := by decide +kernel
theorem d_Sb_readShape_4 : decode prog_6_method_11_code 4 = .ok (.iconst 1, 1) := by decide +kernel
theorem d_Sb_readShape_5 : decode prog_6_method_11_code 5 = .ok (.ireturn, 1) := by decide +kernel
theorem d_Sb_readShape_6 : decode prog_6_method_11_code 6 = .ok (.aload_n 0, 1) := by decide +kernel
theorem d_Sb_readShape_7 : decode prog_6_method_11_code 7 = .ok (.getfield 14, 3) := by decide +kernel
theorem d_Sb_readShape_10 : decode prog_6_method_11_code 10 = .ok (.iconst 1, 1) := by decide +kernel
theorem d_Sb_readShape_11 : decode prog_6_method_11_code 11 = .ok (.invokevirtual 117, 3) := by decide +kernel
theorem d_Sb_readShape_14 : decode prog_6_method_11_code 14 = .ok (.istore_n 3, 1) := by decide +kernel
theorem d_Sb_readShape_15 : decode prog_6_method_11_code 15 = .ok (.aload_n 0, 1) := by decide +kernel
theorem d_Sb_readShape_16 : decode prog_6_method_11_code 16 = .ok (.getfield 14, 3) := by decide +kernel
theorem d_Sb_readShape_19 : decode prog_6_method_11_code 19 = .ok (.iconst 1, 1) := by decide +kernel
theorem d_Sb_readShape_20 : decode prog_6_method_11_code 20 = .ok (.invokevirtual 117, 3) := by decide +kernel
theorem d_Sb_readShape_23 : decode prog_6_method_11_code 23 = .ok (.istore 4, 2) := by decide +kernel
theorem d_Sb_readShape_25 : decode prog_6_method_11_code 25 = .ok (.aload_n 1, 1) := by decide +kernel
theorem d_Sb_readShape_26 : decode prog_6_method_11_code 26 = .ok (.iload_n 3, 1) := by decide +kernel
theorem d_Sb_readShape_27 : decode prog_6_method_11_code 27 = .ok (.iload 4, 2) := by decide +kernel
theorem d_Sb_readShape_29 : decode prog_6_method_11_code 29 = .ok (.invokevirtual 151, 3) := by decide +kernel
theorem d_Sb_readShape_32 : decode prog_6_method_11_code 32 = .ok (.iload_n 3, 1) := by decide +kernel
theorem d_Sb_readShape_33 : decode prog_6_method_11_code 33 = .ok (.iload 4, 2) := by decide +kernel
theorem d_Sb_readShape_35 : decode prog_6_method_11_code 35 = .ok (.invokestatic 154, 3) := by decide +kernel
theorem d_Sb_readShape_38 : decode prog_6_method_11_code 38 = .ok (.ireturn, 1) := by decide +kernel
theorem d_Sb_readTimer_0 : decode prog_6_method_12_code 0 = .ok (.iload_n 2, 1) := by decide +kernel
theorem d_Sb_readTimer_1 : decode prog_6_method_12_code 1 = .ok (.ifCond .ne 5, 3) := by decide +kernel
theorem d_Sb_readTimer_4 : decode prog_6_method_12_code 4 = .ok (.iconst 1, 1) := by decide +kernel
theorem d_Sb_readTimer_5 : decode prog_6_method_12_code 5 = .ok (.ireturn, 1) := by decide +kernel
theorem d_Sb_readTimer_6 : decode prog_6_method_12_code 6 = .ok (.aload_n 1, 1) := by decide +kernel
theorem d_Sb_readTimer_7 : decode prog_6_method_12_code 7 = .ok (.aload_n 0, 1) := by decide +kernel
theorem d_Sb_readTimer_8 : decode prog_6_method_12_code 8 = .ok (.getfield 14, 3) := by decide +kernel
theorem d_Sb_readTimer_11 : decode prog_6_method_12_code 11 = .ok (.iconst 2, 1) := by decide +kernel
theorem d_Sb_readTimer_12 : decode prog_6_method_12_code 12 = .ok (.invokevirtual 117, 3) := by decide +kernel
theorem d_Sb_readTimer_15 : decode prog_6_method_12_code 15 = .ok (.putfield 90, 3) := by decide +kernel
theorem d_Sb_readTimer_18 : decode prog_6_method_12_code 18 = .ok (.aload_n 1, 1) := by decide +kernel
theorem d_Sb_readTimer_19 : decode prog_6_method_12_code 19 = .ok (.getfield 90, 3) := by decide +kernel
theorem d_Sb_readTimer_22 : decode prog_6_method_12_code 22 = .ok (.invokestatic 157, 3) := by decide +kernel
theorem d_Sb_readTimer_25 : decode prog_6_method_12_code 25 = .ok (.ireturn, 1) := by decide +kernel
theorem d_Sb_readPairs_0 : decode prog_6_method_13_code 0 = .ok (.aload_n 1, 1) := by decide +kernel
theorem d_Sb_readPairs_1 : decode prog_6_method_13_code 1 = .ok (.invokevirtual 161, 3) := by decide +kernel
theorem d_Sb_readPairs_4 : decode prog_6_method_13_code 4 = .ok (.aload_n 0, 1) := by decide +kernel
theorem d_Sb_readPairs_5 : decode prog_6_method_13_code 5 = .ok (.getfield 14, 3) := by decide +kernel
theorem d_Sb_readPairs_8 : decode prog_6_method_13_code 8 = .ok (.iconst 1, 1) := by decide +kernel
theorem d_Sb_readPairs_9 : decode prog_6_method_13_code 9 = .ok (.invokevirtual 117, 3) := by decide +kernel
theorem d_Sb_readPairs_12 : decode prog_6_method_13_code 12 = .ok (.istore_n 2, 1) := by decide +kernel
theorem d_Sb_readPairs_13 : decode prog_6_method_13_code 13 = .ok (.iconst (-1), 1) := by decide +kernel
theorem d_Sb_readPairs_14 : decode prog_6_method_13_code 14 = .ok (.istore_n 3, 1) := by decide +kernel
theorem d_Sb_readPairs_15 : decode prog_6_method_13_code 15 = .ok (.iconst 0, 1) := by decide +kernel
theorem d_Sb_readPairs_16 : decode prog_6_method_13_code 16 = .ok (.istore 4, 2) := by decide +kernel
theorem d_Sb_readPairs_18 : decode prog_6_method_13_code 18 = .ok (.iload 4, 2) := by decide +kernel
theorem d_Sb_readPairs_20 : decode prog_6_method_13_code 20 = .ok (.iload_n 2, 1) := by decide +kernel
theorem d_Sb_readPairs_21 : decode prog_6_method_13_code 21 = .ok (.if_icmp .ge 47, 3) := by decide +kernel
theorem d_Sb_readPairs_24 : decode prog_6_method_13_code 24 = .ok (.aload_n 0, 1) := by decide +kernel
theorem d_Sb_readPairs_25 : decode prog_6_method_13_code 25 = .ok (.getfield 14, 3) := by decide +kernel
theorem d_Sb_readPairs_28 : decode prog_6_method_13_code 28 = .ok (.iconst 1, 1) := by decide +kernel
theorem d_Sb_readPairs_29 : decode prog_6_method_13_code 29 = .ok (.invokevirtual 117, 3) := by decide +kernel
theorem d_Sb_readPairs_32 : decode prog_6_method_13_code 32 = .ok (.istore 5, 2) := by decide +kernel
theorem d_Sb_readPairs_34 : decode prog_6_method_13_code 34 = .ok (.iload 5, 2) := by decide +kernel
theorem d_Sb_readPairs_36 : decode prog_6_method_13_code 36 = .ok (.iload_n 3, 1) := by decide +kernel
theorem d_Sb_readPairs_37 : decode prog_6_method_13_code 37 = .ok (.if_icmp .le 12, 3) := by decide +kernel
theorem d_Sb_readPairs_40 : decode prog_6_method_13_code 40 = .ok (.aload_n 1, 1) := by decide +kernel
theorem d_Sb_readPairs_41 : decode prog_6_method_13_code 41 = .ok (.iload 5, 2) := by decide +kernel
theorem d_Sb_readPairs_43 : decode prog_6_method_13_code 43 = .ok (.invokevirtual 164, 3) := by decide +kernel
theorem d_Sb_readPairs_46 : decode prog_6_method_13_code 46 = .ok (.ifCond .ne 5, 3) := by decide +kernel
theorem d_Sb_readPairs_49 : decode prog_6_method_13_code 49 = .ok (.iconst 0, 1) := by decide +kernel
theorem d_Sb_readPairs_50 : decode prog_6_method_13_code 50 = .ok (.ireturn, 1) := by decide +kernel
theorem d_Sb_readPairs_51 : decode prog_6_method_13_code 51 = .ok (.aload_n 1, 1) := by decide +kernel
theorem d_Sb_readPairs_52 : decode prog_6_method_13_code 52 = .ok (.getfield 97, 3) := by decide +kernel
theorem d_Sb_readPairs_55 : decode prog_6_method_13_code 55 = .ok (.iload 5, 2) := by decide +kernel
theorem d_Sb_readPairs_57 : decode prog_6_method_13_code 57 = .ok (.iconst 1, 1) := by decide +kernel
theorem d_Sb_readPairs_58 : decode prog_6_method_13_code 58 = .ok (.bastore, 1) := by decide +kernel
theorem d_Sb_readPairs_59 : decode prog_6_method_13_code 59 = .ok (.iload 5, 2) := by decide +kernel
theorem d_Sb_readPairs_61 : decode prog_6_method_13_code 61 = .ok (.istore_n 3, 1) := by decide +kernel
theorem d_Sb_readPairs_62 : decode prog_6_method_13_code 62 = .ok (.iinc 4 1, 3) := by decide +kernel
theorem d_Sb_readPairs_65 : decode prog_6_method_13_code 65 = .ok (.goto (-47), 3) := by decide +kernel
theorem d_Sb_readPairs_68 : decode prog_6_method_13_code 68 = .ok (.iload_n 2, 1) := by decide +kernel
theorem d_Sb_readPairs_69 : decode prog_6_method_13_code 69 = .ok (.iconst (-1), 1) := by decide +kernel
theorem d_Sb_readPairs_70 : decode prog_6_method_13_code 70 = .ok (.if_icmp .eq 7, 3) := by decide +kernel
theorem d_Sb_readPairs_73 : decode prog_6_method_13_code 73 = .ok (.iconst 1, 1) := by decide +kernel
theorem d_Sb_readPairs_74 : decode prog_6_method_13_code 74 = .ok (.goto 4, 3) := by decide +kernel
theorem d_Sb_readPairs_77 : decode prog_6_method_13_code 77 = .ok (.iconst 0, 1) := by decide +kernel
theorem d_Sb_readPairs_78 : decode prog_6_method_13_code 78 = .ok (.ireturn, 1) := by decide +kernel
theorem d_Sb_readCheck_0 : decode prog_6_method_14_code 0 = .ok (.aload_n 0, 1) := by decide +kernel
theorem d_Sb_readCheck_1 : decode prog_6_method_14_code 1 = .ok (.getfield 14, 3) := by decide +kernel
theorem d_Sb_readCheck_4 : decode prog_6_method_14_code 4 = .ok (.aload_n 0, 1) := by decide +kernel
theorem d_Sb_readCheck_5 : decode prog_6_method_14_code 5 = .ok (.getfield 14, 3) := by decide +kernel
theorem d_Sb_readCheck_8 : decode prog_6_method_14_code 8 = .ok (.getfield 101, 3) := by decide +kernel
theorem d_Sb_readCheck_11 : decode prog_6_method_14_code 11 = .ok (.invokevirtual 48, 3) := by decide +kernel
theorem d_Sb_readCheck_14 : decode prog_6_method_14_code 14 = .ok (.istore_n 1, 1) := by decide +kernel
theorem d_Sb_readCheck_15 : decode prog_6_method_14_code 15 = .ok (.aload_n 0, 1) := by decide +kernel
theorem d_Sb_readCheck_16 : decode prog_6_method_14_code 16 = .ok (.getfield 14, 3) := by decide +kernel
theorem d_Sb_readCheck_19 : decode prog_6_method_14_code 19 = .ok (.iconst 2, 1) := by decide +kernel
theorem d_Sb_readCheck_20 : decode prog_6_method_14_code 20 = .ok (.invokevirtual 117, 3) := by decide +kernel
theorem d_Sb_readCheck_23 : decode prog_6_method_14_code 23 = .ok (.iload_n 1, 1) := by decide +kernel
theorem d_Sb_readCheck_24 : decode prog_6_method_14_code 24 = .ok (.if_icmp .ne 17, 3) := by decide +kernel
theorem d_Sb_readCheck_27 : decode prog_6_method_14_code 27 = .ok (.aload_n 0, 1) := by decide +kernel
theorem d_Sb_readCheck_28 : decode prog_6_method_14_code 28 = .ok (.getfield 14, 3) := by decide +kernel
theorem d_Sb_readCheck_31 : decode prog_6_method_14_code 31 = .ok (.invokevirtual 167, 3) := by decide +kernel
theorem d_Sb_readCheck_34 : decode prog_6_method_14_code 34 = .ok (.ifCond .eq 7, 3) := by decide +kernel
theorem d_Sb_readCheck_37 : decode prog_6_method_14_code 37 = .ok (.iconst 1, 1) := by decide +kernel
theorem d_Sb_readCheck_38 : decode prog_6_method_14_code 38 = .ok (.goto 4, 3) := by decide +kernel
theorem d_Sb_readCheck_41 : decode prog_6_method_14_code 41 = .ok (.iconst 0, 1) := by decide +kernel
theorem d_Sb_readCheck_42 : decode prog_6_method_14_code 42 = .ok (.ireturn, 1) := by decide +kernel
theorem d_Wo_init_0 : decode prog_7_method_1_code 0 = .ok (.aload_n 0, 1) := by decide +kernel
theorem d_Wo_init_1 : decode prog_7_method_1_code 1 = .ok (.invokespecial 3, 3) := by decide +kernel
theorem d_Wo_init_4 : decode prog_7_method_1_code 4 = .ok (.aload_n 0, 1) := by decide +kernel
theorem d_Wo_init_5 : decode prog_7_method_1_code 5 = .ok (.bipush 16, 2) := by decide +kernel
theorem d_Wo_init_7 : decode prog_7_method_1_code 7 = .ok (.anewarray 9, 3) := by decide +kernel
theorem d_Wo_init_10 : decode prog_7_method_1_code 10 = .ok (.putfield 11, 3) := by decide +kernel
theorem d_Wo_init_13 : decode prog_7_method_1_code 13 = .ok (.aload_n 0, 1) := by decide +kernel
theorem d_Wo_init_14 : decode prog_7_method_1_code 14 = .ok (.sipush 256, 3) := by decide +kernel
theorem d_Wo_init_17 : decode prog_7_method_1_code 17 = .ok (.newarray .boolean, 2) := by decide +kernel
theorem d_Wo_init_19 : decode prog_7_method_1_code 19 = .ok (.putfield 17, 3) := by decide +kernel
theorem d_Wo_init_22 : decode prog_7_method_1_code 22 = .ok (.aload_n 0, 1) := by decide +kernel
theorem d_Wo_init_23 : decode prog_7_method_1_code 23 = .ok (.new 21, 3) := by decide +kernel
theorem d_Wo_init_26 : decode prog_7_method_1_code 26 = .ok (.dup, 1) := by decide +kernel
theorem d_Wo_init_27 : decode prog_7_method_1_code 27 = .ok (.invokespecial 23, 3) := by decide +kernel
theorem d_Wo_init_30 : decode prog_7_method_1_code 30 = .ok (.putfield 24, 3) := by decide +kernel
theorem d_Wo_init_33 : decode prog_7_method_1_code 33 = .ok (.iconst 0, 1) := by decide +kernel
theorem d_Wo_init_34 : decode prog_7_method_1_code 34 = .ok (.istore_n 1, 1) := by decide +kernel
theorem d_Wo_init_35 : decode prog_7_method_1_code 35 = .ok (.iload_n 1, 1) := by decide +kernel
theorem d_Wo_init_36 : decode prog_7_method_1_code 36 = .ok (.bipush 16, 2) := by decide +kernel
theorem d_Wo_init_38 : decode prog_7_method_1_code 38 = .ok (.if_icmp .ge 22, 3) := by decide +kernel
theorem d_Wo_init_41 : decode prog_7_method_1_code 41 = .ok (.aload_n 0, 1) := by decide +kernel
theorem d_Wo_init_42 : decode prog_7_method_1_code 42 = .ok (.getfield 11, 3) := by decide +kernel
theorem d_Wo_init_45 : decode prog_7_method_1_code 45 = .ok (.iload_n 1, 1) := by decide +kernel
theorem d_Wo_init_46 : decode prog_7_method_1_code 46 = .ok (.new 9, 3) := by decide +kernel
theorem d_Wo_init_49 : decode prog_7_method_1_code 49 = .ok (.dup, 1) := by decide +kernel
theorem d_Wo_init_50 : decode prog_7_method_1_code 50 = .ok (.invokespecial 28, 3) := by decide +kernel
theorem d_Wo_init_53 : decode prog_7_method_1_code 53 = .ok (.aastore, 1) := by decide +kernel
theorem d_Wo_init_54 : decode prog_7_method_1_code 54 = .ok (.iinc 1 1, 3) := by decide +kernel
theorem d_Wo_init_57 : decode prog_7_method_1_code 57 = .ok (.goto (-22), 3) := by decide +kernel
theorem d_Wo_init_60 : decode prog_7_method_1_code 60 = .ok (.return_, 1) := by decide +kernel
theorem d_Wo_isGood_0 : decode prog_7_method_2_code 0 = .ok (.aload_n 0, 1) := by decide +kernel
theorem d_Wo_isGood_1 : decode prog_7_method_2_code 1 = .ok (.iload_n 1, 1) := by decide +kernel
theorem d_Wo_isGood_2 : decode prog_7_method_2_code 2 = .ok (.invokevirtual 29, 3) := by decide +kernel
theorem d_Wo_isGood_5 : decode prog_7_method_2_code 5 = .ok (.astore_n 2, 1) := by decide +kernel
theorem d_Wo_isGood_6 : decode prog_7_method_2_code 6 = .ok (.aload_n 2, 1) := by decide +kernel
theorem d_Wo_isGood_7 : decode prog_7_method_2_code 7 = .ok (.getfield 33, 3) := by decide +kernel
theorem d_Wo_isGood_10 : decode prog_7_method_2_code 10 = .ok (.ifCond .eq 17, 3) := by decide +kernel
theorem d_Wo_isGood_13 : decode prog_7_method_2_code 13 = .ok (.aload_n 2, 1) := by decide +kernel
theorem d_Wo_isGood_14 : decode prog_7_method_2_code 14 = .ok (.getfield 37, 3) := by decide +kernel
theorem d_Wo_isGood_17 : decode prog_7_method_2_code 17 = .ok (.iload_n 1, 1) := by decide +kernel
theorem d_Wo_isGood_18 : decode prog_7_method_2_code 18 = .ok (.iconst 4, 1) := by decide +kernel
theorem d_Wo_isGood_19 : decode prog_7_method_2_code 19 = .ok (.ishr, 1) := by decide +kernel
theorem d_Wo_isGood_20 : decode prog_7_method_2_code 20 = .ok (.if_icmp .ne 7, 3) := by decide +kernel
theorem d_Wo_isGood_23 : decode prog_7_method_2_code 23 = .ok (.iconst 1, 1) := by decide +kernel
theorem d_Wo_isGood_24 : decode prog_7_method_2_code 24 = .ok (.goto 4, 3) := by decide +kernel
theorem d_Wo_isGood_27 : decode prog_7_method_2_code 27 = .ok (.iconst 0, 1) := by decide +kernel
theorem d_Wo_isGood_28 : decode prog_7_method_2_code 28 = .ok (.ireturn, 1) := by decide +kernel
theorem d_Wo_slotOf_0 : decode prog_7_method_3_code 0 = .ok (.aload_n 0, 1) := by decide +kernel
theorem d_Wo_slotOf_1 : decode prog_7_method_3_code 1 = .ok (.getfield 11, 3) := by decide +kernel
theorem d_Wo_slotOf_4 : decode prog_7_method_3_code 4 = .ok (.iload_n 1, 1) := by decide +kernel
theorem d_Wo_slotOf_5 : decode prog_7_method_3_code 5 = .ok (.invokestatic 41, 3) := by decide +kernel
theorem d_Wo_slotOf_8 : decode prog_7_method_3_code 8 = .ok (.aaload, 1) := by decide +kernel
theorem d_Wo_slotOf_9 : decode prog_7_method_3_code 9 = .ok (.areturn, 1) := by decide +kernel
theorem d_Wo_handleIn_0 : decode prog_7_method_4_code 0 = .ok (.iload_n 1, 1) := by decide +kernel
theorem d_Wo_handleIn_1 : decode prog_7_method_4_code 1 = .ok (.bipush 16, 2) := by decide +kernel
theorem d_Wo_handleIn_3 : decode prog_7_method_4_code 3 = .ok (.aload_n 0, 1) := by decide +kernel
theorem d_Wo_handleIn_4 : decode prog_7_method_4_code 4 = .ok (.getfield 11, 3) := by decide +kernel
theorem d_Wo_handleIn_7 : decode prog_7_method_4_code 7 = .ok (.iload_n 1, 1) := by decide +kernel
theorem d_Wo_handleIn_8 : decode prog_7_method_4_code 8 = .ok (.aaload, 1) := by decide +kernel
theorem d_Wo_handleIn_9 : decode prog_7_method_4_code 9 = .ok (.getfield 37, 3) := by decide +kernel
theorem d_Wo_handleIn_12 : decode prog_7_method_4_code 12 = .ok (.imul, 1) := by decide +kernel
theorem d_Wo_handleIn_13 : decode prog_7_method_4_code 13 = .ok (.iadd, 1) := by decide +kernel
theorem d_Wo_handleIn_14 : decode prog_7_method_4_code 14 = .ok (.ireturn, 1) := by decide +kernel
theorem d_Wo_lowestEmpty_0 : decode prog_7_method_5_code 0 = .ok (.iconst 0, 1) := by decide +kernel
theorem d_Wo_lowestEmpty_1 : decode prog_7_method_5_code 1 = .ok (.istore_n 1, 1) := by decide +kernel
theorem d_Wo_lowestEmpty_2 : decode prog_7_method_5_code 2 = .ok (.iload_n 1, 1) := by decide +kernel
theorem d_Wo_lowestEmpty_3 : decode prog_7_method_5_code 3 = .ok (.bipush 16, 2) := by decide +kernel
theorem d_Wo_lowestEmpty_5 : decode prog_7_method_5_code 5 = .ok (.if_icmp .ge 23, 3) := by decide +kernel
theorem d_Wo_lowestEmpty_8 : decode prog_7_method_5_code 8 = .ok (.aload_n 0, 1) := by decide +kernel
theorem d_Wo_lowestEmpty_9 : decode prog_7_method_5_code 9 = .ok (.getfield 11, 3) := by decide +kernel
theorem d_Wo_lowestEmpty_12 : decode prog_7_method_5_code 12 = .ok (.iload_n 1, 1) := by decide +kernel
theorem d_Wo_lowestEmpty_13 : decode prog_7_method_5_code 13 = .ok (.aaload, 1) := by decide +kernel
theorem d_Wo_lowestEmpty_14 : decode prog_7_method_5_code 14 = .ok (.getfield 33, 3) := by decide +kernel
theorem d_Wo_lowestEmpty_17 : decode prog_7_method_5_code 17 = .ok (.ifCond .ne 5, 3) := by decide +kernel
theorem d_Wo_lowestEmpty_20 : decode prog_7_method_5_code 20 = .ok (.iload_n 1, 1) := by decide +kernel
theorem d_Wo_lowestEmpty_21 : decode prog_7_method_5_code 21 = .ok (.ireturn, 1) := by decide +kernel
theorem d_Wo_lowestEmpty_22 : decode prog_7_method_5_code 22 = .ok (.iinc 1 1, 3) := by decide +kernel
theorem d_Wo_lowestEmpty_25 : decode prog_7_method_5_code 25 = .ok (.goto (-23), 3) := by decide +kernel
theorem d_Wo_lowestEmpty_28 : decode prog_7_method_5_code 28 = .ok (.iconst (-1), 1) := by decide +kernel
theorem d_Wo_lowestEmpty_29 : decode prog_7_method_5_code 29 = .ok (.ireturn, 1) := by decide +kernel
theorem d_Wo_addThing_0 : decode prog_7_method_6_code 0 = .ok (.aload_n 0, 1) := by decide +kernel
theorem d_Wo_addThing_1 : decode prog_7_method_6_code 1 = .ok (.invokevirtual 45, 3) := by decide +kernel
theorem d_Wo_addThing_4 : decode prog_7_method_6_code 4 = .ok (.istore_n 3, 1) := by decide +kernel
theorem d_Wo_addThing_5 : decode prog_7_method_6_code 5 = .ok (.iload_n 3, 1) := by decide +kernel
theorem d_Wo_addThing_6 : decode prog_7_method_6_code 6 = .ok (.iconst (-1), 1) := by decide +kernel
theorem d_Wo_addThing_7 : decode prog_7_method_6_code 7 = .ok (.if_icmp .ne 5, 3) := by decide +kernel
theorem d_Wo_addThing_10 : decode prog_7_method_6_code 10 = .ok (.iconst (-1), 1) := by decide +kernel
theorem d_Wo_addThing_11 : decode prog_7_method_6_code 11 = .ok (.ireturn, 1) := by decide +kernel
theorem d_Wo_addThing_12 : decode prog_7_method_6_code 12 = .ok (.aload_n 0, 1) := by decide +kernel
theorem d_Wo_addThing_13 : decode prog_7_method_6_code 13 = .ok (.getfield 11, 3) := by decide +kernel
theorem d_Wo_addThing_16 : decode prog_7_method_6_code 16 = .ok (.iload_n 3, 1) := by decide +kernel
theorem d_Wo_addThing_17 : decode prog_7_method_6_code 17 = .ok (.aaload, 1) := by decide +kernel
theorem d_Wo_addThing_18 : decode prog_7_method_6_code 18 = .ok (.iload_n 1, 1) := by decide +kernel
theorem d_Wo_addThing_19 : decode prog_7_method_6_code 19 = .ok (.iload_n 2, 1) := by decide +kernel
theorem d_Wo_addThing_20 : decode prog_7_method_6_code 20 = .ok (.invokevirtual 49, 3) := by decide +kernel
theorem d_Wo_addThing_23 : decode prog_7_method_6_code 23 = .ok (.aload_n 0, 1) := by decide +kernel
theorem d_Wo_addThing_24 : decode prog_7_method_6_code 24 = .ok (.iload_n 3, 1) := by decide +kernel
theorem d_Wo_addThing_25 : decode prog_7_method_6_code 25 = .ok (.invokevirtual 53, 3) := by decide +kernel
theorem d_Wo_addThing_28 : decode prog_7_method_6_code 28 = .ok (.ireturn, 1) := by decide +kernel
theorem d_Wo_removeThing_0 : decode prog_7_method_7_code 0 = .ok (.aload_n 0, 1) := by decide +kernel
theorem d_Wo_removeThing_1 : decode prog_7_method_7_code 1 = .ok (.getfield 11, 3) := by decide +kernel
theorem d_Wo_removeThing_4 : decode prog_7_method_7_code 4 = .ok (.iload_n 1, 1) := by decide +kernel
theorem d_Wo_removeThing_5 : decode prog_7_method_7_code 5 = .ok (.aaload, 1) := by decide +kernel
theorem d_Wo_removeThing_6 : decode prog_7_method_7_code 6 = .ok (.invokevirtual 56, 3) := by decide +kernel
theorem d_Wo_removeThing_9 : decode prog_7_method_7_code 9 = .ok (.iconst 0, 1) := by decide +kernel
theorem d_Wo_removeThing_10 : decode prog_7_method_7_code 10 = .ok (.istore_n 2, 1) := by decide +kernel
theorem d_Wo_removeThing_11 : decode prog_7_method_7_code 11 = .ok (.iload_n 2, 1) := by decide +kernel
theorem d_Wo_removeThing_12 : decode prog_7_method_7_code 12 = .ok (.bipush 16, 2) := by decide +kernel
theorem d_Wo_removeThing_14 : decode prog_7_method_7_code 14 = .ok (.if_icmp .ge 31, 3) := by decide +kernel
theorem d_Wo_removeThing_17 : decode prog_7_method_7_code 17 = .ok (.aload_n 0, 1) := by decide +kernel
theorem d_Wo_removeThing_18 : decode prog_7_method_7_code 18 = .ok (.getfield 17, 3) := by decide +kernel
theorem d_Wo_removeThing_21 : decode prog_7_method_7_code 21 = .ok (.iload_n 1, 1) := by decide +kernel
theorem d_Wo_removeThing_22 : decode prog_7_method_7_code 22 = .ok (.iload_n 2, 1) := by decide +kernel
theorem d_Wo_removeThing_23 : decode prog_7_method_7_code 23 = .ok (.invokestatic 59, 3) := by decide +kernel
theorem d_Wo_removeThing_26 : decode prog_7_method_7_code 26 = .ok (.iconst 0, 1) := by decide +kernel
theorem d_Wo_removeThing_27 : decode prog_7_method_7_code 27 = .ok (.bastore, 1) := by decide +kernel
theorem d_Wo_removeThing_28 : decode prog_7_method_7_code 28 = .ok (.aload_n 0, 1) := by decide +kernel
theorem d_Wo_removeThing_29 : decode prog_7_method_7_code 29 = .ok (.getfield 17, 3) := by decide +kernel
theorem d_Wo_removeThing_32 : decode prog_7_method_7_code 32 = .ok (.iload_n 2, 1) := by decide +kernel
theorem d_Wo_removeThing_33 : decode prog_7_method_7_code 33 = .ok (.iload_n 1, 1) := by decide +kernel
theorem d_Wo_removeThing_34 : decode prog_7_method_7_code 34 = .ok (.invokestatic 59, 3) := by decide +kernel
theorem d_Wo_removeThing_37 : decode prog_7_method_7_code 37 = .ok (.iconst 0, 1) := by decide +kernel
theorem d_Wo_removeThing_38 : decode prog_7_method_7_code 38 = .ok (.bastore, 1) := by decide +kernel
theorem d_Wo_removeThing_39 : decode prog_7_method_7_code 39 = .ok (.iinc 2 1, 3) := by decide +kernel
theorem d_Wo_removeThing_42 : decode prog_7_method_7_code 42 = .ok (.goto (-31), 3) := by decide +kernel
theorem d_Wo_removeThing_45 : decode prog_7_method_7_code 45 = .ok (.return_, 1) := by decide +kernel
theorem d_Wo_covering_0 : decode prog_7_method_8_code 0 = .ok (.iconst 0, 1) := by decide +kernel
theorem d_Wo_covering_1 : decode prog_7_method_8_code 1 = .ok (.istore_n 3, 1) := by decide +kernel
theorem d_Wo_covering_2 : decode prog_7_method_8_code 2 = .ok (.iconst 0, 1) := by decide +kernel
theorem d_Wo_covering_3 : decode prog_7_method_8_code 3 = .ok (.istore 4, 2) := by decide +kernel
theorem d_Wo_covering_5 : decode prog_7_method_8_code 5 = .ok (.iload 4, 2) := by decide +kernel
theorem d_Wo_covering_7 : decode prog_7_method_8_code 7 = .ok (.bipush 16, 2) := by decide +kernel
theorem d_Wo_covering_9 : decode prog_7_method_8_code 9 = .ok (.if_icmp .ge 31, 3) := by decide +kernel
theorem d_Wo_covering_12 : decode prog_7_method_8_code 12 = .ok (.aload_n 0, 1) := by decide +kernel
theorem d_Wo_covering_13 : decode prog_7_method_8_code 13 = .ok (.getfield 11, 3) := by decide +kernel
theorem d_Wo_covering_16 : decode prog_7_method_8_code 16 = .ok (.iload 4, 2) := by decide +kernel
theorem d_Wo_covering_18 : decode prog_7_method_8_code 18 = .ok (.aaload, 1) := by decide +kernel
theorem d_Wo_covering_19 : decode prog_7_method_8_code 19 = .ok (.iload_n 1, 1) := by decide +kernel
theorem d_Wo_covering_20 : decode prog_7_method_8_code 20 = .ok (.iload_n 2, 1) := by decide +kernel
theorem d_Wo_covering_21 : decode prog_7_method_8_code 21 = .ok (.invokevirtual 63, 3) := by decide +kernel
theorem d_Wo_covering_24 : decode prog_7_method_8_code 24 = .ok (.ifCond .eq 10, 3) := by decide +kernel
theorem d_Wo_covering_27 : decode prog_7_method_8_code 27 = .ok (.iload_n 3, 1) := by decide +kernel
theorem d_Wo_covering_28 : decode prog_7_method_8_code 28 = .ok (.iconst 1, 1) := by decide +kernel
theorem d_Wo_covering_29 : decode prog_7_method_8_code 29 = .ok (.iload 4, 2) := by decide +kernel
theorem d_Wo_covering_31 : decode prog_7_method_8_code 31 = .ok (.ishl, 1) := by decide +kernel
theorem d_Wo_covering_32 : decode prog_7_method_8_code 32 = .ok (.iadd, 1) := by decide +kernel
theorem d_Wo_covering_33 : decode prog_7_method_8_code 33 = .ok (.istore_n 3, 1) := by decide +kernel
theorem d_Wo_covering_34 : decode prog_7_method_8_code 34 = .ok (.iinc 4 1, 3) := by decide +kernel
theorem d_Wo_covering_37 : decode prog_7_method_8_code 37 = .ok (.goto (-32), 3) := by decide +kernel
theorem d_Wo_covering_40 : decode prog_7_method_8_code 40 = .ok (.iload_n 3, 1) := by decide +kernel
theorem d_Wo_covering_41 : decode prog_7_method_8_code 41 = .ok (.ireturn, 1) := by decide +kernel
theorem d_Wo_step_0 : decode prog_7_method_9_code 0 = .ok (.aload_n 0, 1) := by decide +kernel
theorem d_Wo_step_1 : decode prog_7_method_9_code 1 = .ok (.getfield 67, 3) := by decide +kernel
theorem d_Wo_step_4 : decode prog_7_method_9_code 4 = .ok (.ldc 70, 2) := by decide +kernel
theorem d_Wo_step_6 : decode prog_7_method_9_code 6 = .ok (.if_icmp .ge 13, 3) := by decide +kernel
theorem d_Wo_step_9 : decode prog_7_method_9_code 9 = .ok (.aload_n 0, 1) := by decide +kernel
theorem d_Wo_step_10 : decode prog_7_method_9_code 10 = .ok (.dup, 1) := by decide +kernel
theorem d_Wo_step_11 : decode prog_7_method_9_code 11 = .ok (.getfield 67, 3) := by decide +kernel
theorem d_Wo_step_14 : decode prog_7_method_9_code 14 = .ok (.iconst 1, 1) := by decide +kernel
theorem d_Wo_step_15 : decode prog_7_method_9_code 15 = .ok (.iadd, 1) := by decide +kernel
theorem d_Wo_step_16 : decode prog_7_method_9_code 16 = .ok (.putfield 67, 3) := by decide +kernel
theorem d_Wo_step_19 : decode prog_7_method_9_code 19 = .ok (.aload_n 0, 1) := by decide +kernel
theorem d_Wo_step_20 : decode prog_7_method_9_code 20 = .ok (.invokevirtual 71, 3) := by decide +kernel
theorem d_Wo_step_23 : decode prog_7_method_9_code 23 = .ok (.aload_n 0, 1) := by decide +kernel
theorem d_Wo_step_24 : decode prog_7_method_9_code 24 = .ok (.invokevirtual 74, 3) := by decide +kernel
theorem d_Wo_step_27 : decode prog_7_method_9_code 27 = .ok (.aload_n 0, 1) := by decide +kernel
theorem d_Wo_step_28 : decode prog_7_method_9_code 28 = .ok (.invokevirtual 77, 3) := by decide +kernel
theorem d_Wo_step_31 : decode prog_7_method_9_code 31 = .ok (.return_, 1) := by decide +kernel
theorem d_Wo_countDown_0 : decode prog_7_method_10_code 0 = .ok (.iconst 0, 1) := by decide +kernel
theorem d_Wo_countDown_1 : decode prog_7_method_10_code 1 = .ok (.istore_n 1, 1) := by decide +kernel
theorem d_Wo_countDown_2 : decode prog_7_method_10_code 2 = .ok (.iload_n 1, 1) := by decide +kernel
theorem d_Wo_countDown_3 : decode prog_7_method_10_code 3 = .ok (.bipush 16, 2) := by decide +kernel
theorem d_Wo_countDown_5 : decode prog_7_method_10_code 5 = .ok (.if_icmp .ge 53, 3) := by decide +kernel
theorem d_Wo_countDown_8 : decode prog_7_method_10_code 8 = .ok (.aload_n 0, 1) := by decide +kernel
theorem d_Wo_countDown_9 : decode prog_7_method_10_code 9 = .ok (.getfield 11, 3) := by decide +kernel
theorem d_Wo_countDown_12 : decode prog_7_method_10_code 12 = .ok (.iload_n 1, 1) := by decide +kernel
theorem d_Wo_countDown_13 : decode prog_7_method_10_code 13 = .ok (.aaload, 1) := by decide +kernel
theorem d_Wo_countDown_14 : decode prog_7_method_10_code 14 = .ok (.invokevirtual 80, 3) := by decide +kernel
theorem d_Wo_countDown_17 : decode prog_7_method_10_code 17 = .ok (.ifCond .eq 35, 3) := by decide +kernel
theorem d_Wo_countDown_20 : decode prog_7_method_10_code 20 = .ok (.aload_n 0, 1) := by decide +kernel
theorem d_Wo_countDown_21 : decode prog_7_method_10_code 21 = .ok (.getfield 11, 3) := by decide +kernel
theorem d_Wo_countDown_24 : decode prog_7_method_10_code 24 = .ok (.iload_n 1, 1) := by decide +kernel
theorem d_Wo_countDown_25 : decode prog_7_method_10_code 25 = .ok (.aaload, 1) := by decide +kernel
theorem d_Wo_countDown_26 : decode prog_7_method_10_code 26 = .ok (.dup, 1) := by decide +kernel
theorem d_Wo_countDown_27 : decode prog_7_method_10_code 27 = .ok (.getfield 84, 3) := by decide +kernel
theorem d_Wo_countDown_30 : decode prog_7_method_10_code 30 = .ok (.iconst 1, 1) := by decide +kernel
theorem d_Wo_countDown_31 : decode prog_7_method_10_code 31 = .ok (.isub, 1) := by decide +kernel
theorem d_Wo_countDown_32 : decode prog_7_method_10_code 32 = .ok (.putfield 84, 3) := by decide +kernel
theorem d_Wo_countDown_35 : decode prog_7_method_10_code 35 = .ok (.aload_n 0, 1) := by decide +kernel
theorem d_Wo_countDown_36 : decode prog_7_method_10_code 36 = .ok (.getfield 11, 3) := by decide +kernel
theorem d_Wo_countDown_39 : decode prog_7_method_10_code 39 = .ok (.iload_n 1, 1) := by decide +kernel
theorem d_Wo_countDown_40 : decode prog_7_method_10_code 40 = .ok (.aaload, 1) := by decide +kernel
theorem d_Wo_countDown_41 : decode prog_7_method_10_code 41 = .ok (.getfield 84, 3) := by decide +kernel
theorem d_Wo_countDown_44 : decode prog_7_method_10_code 44 = .ok (.ifCond .ne 8, 3) := by decide +kernel
theorem d_Wo_countDown_47 : decode prog_7_method_10_code 47 = .ok (.aload_n 0, 1) := by decide +kernel
theorem d_Wo_countDown_48 : decode prog_7_method_10_code 48 = .ok (.iload_n 1, 1) := by decide +kernel
theorem d_Wo_countDown_49 : decode prog_7_method_10_code 49 = .ok (.invokevirtual 87, 3) := by decide +kernel
theorem d_Wo_countDown_52 : decode prog_7_method_10_code 52 = .ok (.iinc 1 1, 3) := by decide +kernel
theorem d_Wo_countDown_55 : decode prog_7_method_10_code 55 = .ok (.goto (-53), 3) := by decide +kernel
theorem d_Wo_countDown_58 : decode prog_7_method_10_code 58 = .ok (.return_, 1) := by decide +kernel
theorem d_Wo_moveAll_0 : decode prog_7_method_11_code 0 = .ok (.iconst 0, 1) := by decide +kernel
theorem d_Wo_moveAll_1 : decode prog_7_method_11_code 1 = .ok (.istore_n 1, 1) := by decide +kernel
theorem d_Wo_moveAll_2 : decode prog_7_method_11_code 2 = .ok (.iload_n 1, 1) := by decide +kernel
theorem d_Wo_moveAll_3 : decode prog_7_method_11_code 3 = .ok (.bipush 16, 2) := by decide +kernel
theorem d_Wo_moveAll_5 : decode prog_7_method_11_code 5 = .ok (.if_icmp .ge 30, 3) := by decide +kernel
theorem d_Wo_moveAll_8 : decode prog_7_method_11_code 8 = .ok (.aload_n 0, 1) := by decide +kernel
theorem d_Wo_moveAll_9 : decode prog_7_method_11_code 9 = .ok (.getfield 11, 3) := by decide +kernel
theorem d_Wo_moveAll_12 : decode prog_7_method_11_code 12 = .ok (.iload_n 1, 1) := by decide +kernel
theorem d_Wo_moveAll_13 : decode prog_7_method_11_code 13 = .ok (.aaload, 1) := by decide +kernel
theorem d_Wo_moveAll_14 : decode prog_7_method_11_code 14 = .ok (.getfield 33, 3) := by decide +kernel
theorem d_Wo_moveAll_17 : decode prog_7_method_11_code 17 = .ok (.ifCond .eq 12, 3) := by decide +kernel
theorem d_Wo_moveAll_20 : decode prog_7_method_11_code 20 = .ok (.aload_n 0, 1) := by decide +kernel
theorem d_Wo_moveAll_21 : decode prog_7_method_11_code 21 = .ok (.getfield 11, 3) := by decide +kernel
theorem d_Wo_moveAll_24 : decode prog_7_method_11_code 24 = .ok (.iload_n 1, 1) := by decide +kernel
theorem d_Wo_moveAll_25 : decode prog_7_method_11_code 25 = .ok (.aaload, 1) := by decide +kernel
theorem d_Wo_moveAll_26 : decode prog_7_method_11_code 26 = .ok (.invokevirtual 91, 3) := by decide +kernel
theorem d_Wo_moveAll_29 : decode prog_7_method_11_code 29 = .ok (.iinc 1 1, 3) := by decide +kernel
theorem d_Wo_moveAll_32 : decode prog_7_method_11_code 32 = .ok (.goto (-30), 3) := by decide +kernel
theorem d_Wo_moveAll_35 : decode prog_7_method_11_code 35 = .ok (.return_, 1) := by decide +kernel
theorem d_Wo_makeEvents_0 : decode prog_7_method_12_code 0 = .ok (.aload_n 0, 1) := by decide +kernel
theorem d_Wo_makeEvents_1 : decode prog_7_method_12_code 1 = .ok (.getfield 24, 3) := by decide +kernel
theorem d_Wo_makeEvents_4 : decode prog_7_method_12_code 4 = .ok (.invokevirtual 94, 3) := by decide +kernel
theorem d_Wo_makeEvents_7 : decode prog_7_method_12_code 7 = .ok (.iconst 0, 1) := by decide +kernel
theorem d_Wo_makeEvents_8 : decode prog_7_method_12_code 8 = .ok (.istore_n 1, 1) := by decide +kernel
theorem d_Wo_makeEvents_9 : decode prog_7_method_12_code 9 = .ok (.iload_n 1, 1) := by decide +kernel
theorem d_Wo_makeEvents_10 : decode prog_7_method_12_code 10 = .ok (.bipush 16, 2) := by decide +kernel
theorem d_Wo_makeEvents_12 : decode prog_7_method_12_code 12 = .ok (.if_icmp .ge 49, 3) := by decide +kernel
theorem d_Wo_makeEvents_15 : decode prog_7_method_12_code 15 = .ok (.iload_n 1, 1) := by decide +kernel
theorem d_Wo_makeEvents_16 : decode prog_7_method_12_code 16 = .ok (.iconst 1, 1) := by decide +kernel
theorem d_Wo_makeEvents_17 : decode prog_7_method_12_code 17 = .ok (.iadd, 1) := by decide +kernel
theorem d_Wo_makeEvents_18 : decode prog_7_method_12_code 18 = .ok (.istore_n 2, 1) := by decide +kernel
theorem d_Wo_makeEvents_19 : decode prog_7_method_12_code 19 = .ok (.iload_n 2, 1) := by decide +kernel
theorem d_Wo_makeEvents_20 : decode prog_7_method_12_code 20 = .ok (.bipush 16, 2) := by decide +kernel
theorem d_Wo_makeEvents_22 : decode prog_7_method_12_code 22 = .ok (.if_icmp .ge 33, 3) := by decide +kernel
theorem d_Wo_makeEvents_25 : decode prog_7_method_12_code 25 = .ok (.aload_n 0, 1) := by decide +kernel
theorem d_Wo_makeEvents_26 : decode prog_7_method_12_code 26 = .ok (.iload_n 1, 1) := by decide +kernel
theorem d_Wo_makeEvents_27 : decode prog_7_method_12_code 27 = .ok (.iload_n 2, 1) := by decide +kernel
theorem d_Wo_makeEvents_28 : decode prog_7_method_12_code 28 = .ok (.invokestatic 59, 3) := by decide +kernel
theorem d_Wo_makeEvents_31 : decode prog_7_method_12_code 31 = .ok (.aload_n 0, 1) := by decide +kernel
theorem d_Wo_makeEvents_32 : decode prog_7_method_12_code 32 = .ok (.getfield 11, 3) := by decide +kernel
theorem d_Wo_makeEvents_35 : decode prog_7_method_12_code 35 = .ok (.iload_n 1, 1) := by decide +kernel
theorem d_Wo_makeEvents_36 : decode prog_7_method_12_code 36 = .ok (.aaload, 1) := by decide +kernel
theorem d_Wo_makeEvents_37 : decode prog_7_method_12_code 37 = .ok (.aload_n 0, 1) := by decide +kernel
theorem d_Wo_makeEvents_38 : decode prog_7_method_12_code 38 = .ok (.getfield 11, 3) := by decide +kernel
theorem d_Wo_makeEvents_41 : decode prog_7_method_12_code 41 = .ok (.iload_n 2, 1) := by decide +kernel
theorem d_Wo_makeEvents_42 : decode prog_7_method_12_code 42 = .ok (.aaload, 1) := by decide +kernel
theorem d_Wo_makeEvents_43 : decode prog_7_method_12_code 43 = .ok (.invokevirtual 97, 3) := by decide +kernel
theorem d_Wo_makeEvents_46 : decode prog_7_method_12_code 46 = .ok (.invokevirtual 101, 3) := by decide +kernel
theorem d_Wo_makeEvents_49 : decode prog_7_method_12_code 49 = .ok (.iinc 2 1, 3) := by decide +kernel
theorem d_Wo_makeEvents_52 : decode prog_7_method_12_code 52 = .ok (.goto (-33), 3) := by decide +kernel
theorem d_Wo_makeEvents_55 : decode prog_7_method_12_code 55 = .ok (.iinc 1 1, 3) := by decide +kernel
theorem d_Wo_makeEvents_58 : decode prog_7_method_12_code 58 = .ok (.goto (-49), 3) := by decide +kernel
theorem d_Wo_makeEvents_61 : decode prog_7_method_12_code 61 = .ok (.return_, 1) := by decide +kernel
theorem d_Wo_meet_0 : decode prog_7_method_13_code 0 = .ok (.iload_n 2, 1) := by decide +kernel
theorem d_Wo_meet_1 : decode prog_7_method_13_code 1 = .ok (.ifCond .eq 28, 3) := by decide +kernel
theorem d_Wo_meet_4 : decode prog_7_method_13_code 4 = .ok (.aload_n 0, 1) := by decide +kernel
theorem d_Wo_meet_5 : decode prog_7_method_13_code 5 = .ok (.getfield 24, 3) := by decide +kernel
theorem d_Wo_meet_8 : decode prog_7_method_13_code 8 = .ok (.aload_n 0, 1) := by decide +kernel
theorem d_Wo_meet_9 : decode prog_7_method_13_code 9 = .ok (.getfield 17, 3) := by decide +kernel
theorem d_Wo_meet_12 : decode prog_7_method_13_code 12 = .ok (.iload_n 1, 1) := by decide +kernel
theorem d_Wo_meet_13 : decode prog_7_method_13_code 13 = .ok (.baload, 1) := by decide +kernel
theorem d_Wo_meet_14 : decode prog_7_method_13_code 14 = .ok (.ifCond .eq 7, 3) := by decide +kernel
theorem d_Wo_meet_17 : decode prog_7_method_13_code 17 = .ok (.iconst 1, 1) := by decide +kernel
theorem d_Wo_meet_18 : decode prog_7_method_13_code 18 = .ok (.goto 4, 3) := by decide +kernel
theorem d_Wo_meet_21 : decode prog_7_method_13_code 21 = .ok (.iconst 0, 1) := by decide +kernel
theorem d_Wo_meet_22 : decode prog_7_method_13_code 22 = .ok (.iload_n 1, 1) := by decide +kernel
theorem d_Wo_meet_23 : decode prog_7_method_13_code 23 = .ok (.invokevirtual 105, 3) := by decide +kernel
theorem d_Wo_meet_26 : decode prog_7_method_13_code 26 = .ok (.goto 21, 3) := by decide +kernel
theorem d_Wo_meet_29 : decode prog_7_method_13_code 29 = .ok (.aload_n 0, 1) := by decide +kernel
theorem d_Wo_meet_30 : decode prog_7_method_13_code 30 = .ok (.getfield 17, 3) := by decide +kernel
theorem d_Wo_meet_33 : decode prog_7_method_13_code 33 = .ok (.iload_n 1, 1) := by decide +kernel
theorem d_Wo_meet_34 : decode prog_7_method_13_code 34 = .ok (.baload, 1) := by decide +kernel
theorem d_Wo_meet_35 : decode prog_7_method_13_code 35 = .ok (.ifCond .eq 12, 3) := by decide +kernel
theorem d_Wo_meet_38 : decode prog_7_method_13_code 38 = .ok (.aload_n 0, 1) := by decide +kernel
theorem d_Wo_meet_39 : decode prog_7_method_13_code 39 = .ok (.getfield 24, 3) := by decide +kernel
theorem d_Wo_meet_42 : decode prog_7_method_13_code 42 = .ok (.iconst 2, 1) := by decide +kernel
theorem d_Wo_meet_43 : decode prog_7_method_13_code 43 = .ok (.iload_n 1, 1) := by decide +kernel
theorem d_Wo_meet_44 : decode prog_7_method_13_code 44 = .ok (.invokevirtual 105, 3) := by decide +kernel
theorem d_Wo_meet_47 : decode prog_7_method_13_code 47 = .ok (.aload_n 0, 1) := by decide +kernel
theorem d_Wo_meet_48 : decode prog_7_method_13_code 48 = .ok (.getfield 17, 3) := by decide +kernel
theorem d_Wo_meet_51 : decode prog_7_method_13_code 51 = .ok (.iload_n 1, 1) := by decide +kernel
theorem d_Wo_meet_52 : decode prog_7_method_13_code 52 = .ok (.iload_n 2, 1) := by decide +kernel
theorem d_Wo_meet_53 : decode prog_7_method_13_code 53 = .ok (.bastore, 1) := by decide +kernel
theorem d_Wo_meet_54 : decode prog_7_method_13_code 54 = .ok (.return_, 1) := by decide +kernel
theorem d_Wo_isPairOfThings_0 : decode prog_7_method_14_code 0 = .ok (.iload_n 1, 1) := by decide +kernel
theorem d_Wo_isPairOfThings_1 : decode prog_7_method_14_code 1 = .ok (.invokestatic 108, 3) := by decide +kernel
theorem d_Wo_isPairOfThings_4 : decode prog_7_method_14_code 4 = .ok (.istore_n 2, 1) := by decide +kernel
theorem d_Wo_isPairOfThings_5 : decode prog_7_method_14_code 5 = .ok (.iload_n 1, 1) := by decide +kernel
theorem d_Wo_isPairOfThings_6 : decode prog_7_method_14_code 6 = .ok (.invokestatic 111, 3) := by decide +kernel
theorem d_Wo_isPairOfThings_9 : decode prog_7_method_14_code 9 = .ok (.istore_n 3, 1) := by decide +kernel
theorem d_Wo_isPairOfThings_10 : decode prog_7_method_14_code 10 = .ok (.iload_n 2, 1) := by decide +kernel
theorem d_Wo_isPairOfThings_11 : decode prog_7_method_14_code 11 = .ok (.iload_n 3, 1) := by decide +kernel
theorem d_Wo_isPairOfThings_12 : decode prog_7_method_14_code 12 = .ok (.if_icmp .ge 31, 3) := by decide +kernel
theorem d_Wo_isPairOfThings_15 : decode prog_7_method_14_code 15 = .ok (.aload_n 0, 1) := by decide +kernel
theorem d_Wo_isPairOfThings_16 : decode prog_7_method_14_code 16 = .ok (.getfield 11, 3) := by decide +kernel
theorem d_Wo_isPairOfThings_19 : decode prog_7_method_14_code 19 = .ok (.iload_n 2, 1) := by decide +kernel
theorem d_Wo_isPairOfThings_20 : decode prog_7_method_14_code 20 = .ok (.aaload, 1) := by decide +kernel
theorem d_Wo_isPairOfThings_21 : decode prog_7_method_14_code 21 = .ok (.getfield 33, 3) := by decide +kernel
theorem d_Wo_isPairOfThings_24 : decode prog_7_method_14_code 24 = .ok (.ifCond .eq 19, 3) := by decide +kernel
theorem d_Wo_isPairOfThings_27 : decode prog_7_method_14_code 27 = .ok (.aload_n 0, 1) := by decide +kernel
theorem d_Wo_isPairOfThings_28 : decode prog_7_method_14_code 28 = .ok (.getfield 11, 3) := by decide +kernel
theorem d_Wo_isPairOfThings_31 : decode prog_7_method_14_code 31 = .ok (.iload_n 3, 1) := by decide +kernel
theorem d_Wo_isPairOfThings_32 : decode prog_7_method_14_code 32 = .ok (.aaload, 1) := by decide +kernel
theorem d_Wo_isPairOfThings_33 : decode prog_7_method_14_code 33 = .ok (.getfield 33, 3) := by decide +kernel
theorem d_Wo_isPairOfThings_36 : decode prog_7_method_14_code 36 = .ok (.ifCond .eq 7, 3) := by decide +kernel
theorem d_Wo_isPairOfThings_39 : decode prog_7_method_14_code 39 = .ok (.iconst 1, 1) := by decide +kernel
theorem d_Wo_isPairOfThings_40 : decode prog_7_method_14_code 40 = .ok (.goto 4, 3) := by decide +kernel
theorem d_Wo_isPairOfThings_43 : decode prog_7_method_14_code 43 = .ok (.iconst 0, 1) := by decide +kernel
theorem d_Wo_isPairOfThings_44 : decode prog_7_method_14_code 44 = .ok (.ireturn, 1) := by decide +kernel
theorem d_Wo_countTouching_0 : decode prog_7_method_15_code 0 = .ok (.iconst 0, 1) := by decide +kernel
theorem d_Wo_countTouching_1 : decode prog_7_method_15_code 1 = .ok (.istore_n 1, 1) := by decide +kernel
theorem d_Wo_countTouching_2 : decode prog_7_method_15_code 2 = .ok (.iconst 0, 1) := by decide +kernel
theorem d_Wo_countTouching_3 : decode prog_7_method_15_code 3 = .ok (.istore_n 2, 1) := by decide +kernel
theorem d_Wo_countTouching_4 : decode prog_7_method_15_code 4 = .ok (.iload_n 2, 1) := by decide +kernel
theorem d_Wo_countTouching_5 : decode prog_7_method_15_code 5 = .ok (.sipush 256, 3) := by decide +kernel
theorem d_Wo_countTouching_8 : decode prog_7_method_15_code 8 = .ok (.if_icmp .ge 21, 3) := by decide +kernel
theorem d_Wo_countTouching_11 : decode prog_7_method_15_code 11 = .ok (.aload_n 0, 1) := by decide +kernel
theorem d_Wo_countTouching_12 : decode prog_7_method_15_code 12 = .ok (.getfield 17, 3) := by decide +kernel
theorem d_Wo_countTouching_15 : decode prog_7_method_15_code 15 = .ok (.iload_n 2, 1) := by decide +kernel
theorem d_Wo_countTouching_16 : decode prog_7_method_15_code 16 = .ok (.baload, 1) := by decide +kernel
theorem d_Wo_countTouching_17 : decode prog_7_method_15_code 17 = .ok (.ifCond .eq 6, 3) := by decide +kernel
theorem d_Wo_countTouching_20 : decode prog_7_method_15_code 20 = .ok (.iinc 1 1, 3) := by decide +kernel
theorem d_Wo_countTouching_23 : decode prog_7_method_15_code 23 = .ok (.iinc 2 1, 3) := by decide +kernel
theorem d_Wo_countTouching_26 : decode prog_7_method_15_code 26 = .ok (.goto (-22), 3) := by decide +kernel
theorem d_Wo_countTouching_29 : decode prog_7_method_15_code 29 = .ok (.iload_n 1, 1) := by decide +kernel
theorem d_Wo_countTouching_30 : decode prog_7_method_15_code 30 = .ok (.ireturn, 1) := by decide +kernel
theorem d_Wo_forgetTouching_0 : decode prog_7_method_16_code 0 = .ok (.iconst 0, 1) := by decide +kernel
theorem d_Wo_forgetTouching_1 : decode prog_7_method_16_code 1 = .ok (.istore_n 1, 1) := by decide +kernel
theorem d_Wo_forgetTouching_2 : decode prog_7_method_16_code 2 = .ok (.iload_n 1, 1) := by decide +kernel
theorem d_Wo_forgetTouching_3 : decode prog_7_method_16_code 3 = .ok (.sipush 256, 3) := by decide +kernel
theorem d_Wo_forgetTouching_6 : decode prog_7_method_16_code 6 = .ok (.if_icmp .ge 16, 3) := by decide +kernel
theorem d_Wo_forgetTouching_9 : decode prog_7_method_16_code 9 = .ok (.aload_n 0, 1) := by decide +kernel
theorem d_Wo_forgetTouching_10 : decode prog_7_method_16_code 10 = .ok (.getfield 17, 3) := by decide +kernel
theorem d_Wo_forgetTouching_13 : decode prog_7_method_16_code 13 = .ok (.iload_n 1, 1) := by decide +kernel
theorem d_Wo_forgetTouching_14 : decode prog_7_method_16_code 14 = .ok (.iconst 0, 1) := by decide +kernel
theorem d_Wo_forgetTouching_15 : decode prog_7_method_16_code 15 = .ok (.bastore, 1) := by decide +kernel
theorem d_Wo_forgetTouching_16 : decode prog_7_method_16_code 16 = .ok (.iinc 1 1, 3) := by decide +kernel
theorem d_Wo_forgetTouching_19 : decode prog_7_method_16_code 19 = .ok (.goto (-17), 3) := by decide +kernel
theorem d_Wo_forgetTouching_22 : decode prog_7_method_16_code 22 = .ok (.return_, 1) := by decide +kernel
