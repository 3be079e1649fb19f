theorem dX11_fact_23 : decode cX11_fact 23 = .ok (.iload_n 3, 1) := by decide +kernel
theorem dX11_fact_24 : decode cX11_fact 24 = .ok (.iconst 4, 1) := by decide +kernel
theorem dX11_fact_25 : decode cX11_fact 25 = .ok (.if_icmp .le 5, 3) := by decide +kernel
theorem dX11_fact_28 : decode cX11_fact 28 = .ok (.iconst (-1), 1) := by decide +kernel
theorem dX11_fact_29 : decode cX11_fact 29 = .ok (.ireturn, 1) := by decide +kernel
theorem dX11_fact_30 : decode cX11_fact 30 = .ok (.aload 4, 2) := by decide +kernel
theorem dX11_fact_32 : decode cX11_fact 32 = .ok (.iload_n 3, 1) := by decide +kernel
theorem dX11_fact_33 : decode cX11_fact 33 = .ok (.iload_n 2, 1) := by decide +kernel
theorem dX11_fact_34 : decode cX11_fact 34 = .ok (.invokevirtual 175, 3) := by decide +kernel
theorem dX11_fact_37 : decode cX11_fact 37 = .ok (.ireturn, 1) := by decide +kernel
theorem dX11_may_0 : decode cX11_may 0 = .ok (.aload_n 0, 1) := by decide +kernel
theorem dX11_may_1 : decode cX11_may 1 = .ok (.iload_n 1, 1) := by decide +kernel
theorem dX11_may_2 : decode cX11_may 2 = .ok (.invokevirtual 150, 3) := by decide +kernel
theorem dX11_may_5 : decode cX11_may 5 = .ok (.astore 4, 2) := by decide +kernel
theorem dX11_may_7 : decode cX11_may 7 = .ok (.aload 4, 2) := by decide +kernel
theorem dX11_may_9 : decode cX11_may 9 = .ok (.ifnull 18, 3) := by decide +kernel
theorem dX11_may_12 : decode cX11_may 12 = .ok (.aload_n 0, 1) := by decide +kernel
theorem dX11_may_13 : decode cX11_may 13 = .ok (.iload_n 2, 1) := by decide +kernel
theorem dX11_may_14 : decode cX11_may 14 = .ok (.invokevirtual 88, 3) := by decide +kernel
theorem dX11_may_17 : decode cX11_may 17 = .ok (.ifCond .eq 10, 3) := by decide +kernel
theorem dX11_may_20 : decode cX11_may 20 = .ok (.iload_n 3, 1) := by decide +kernel
theorem dX11_may_21 : decode cX11_may 21 = .ok (.invokestatic 92, 3) := by decide +kernel
theorem dX11_may_24 : decode cX11_may 24 = .ok (.ifCond .ne 5, 3) := by decide +kernel
theorem dX11_may_27 : decode cX11_may 27 = .ok (.iconst (-1), 1) := by decide +kernel
theorem dX11_may_28 : decode cX11_may 28 = .ok (.ireturn, 1) := by decide +kernel
theorem dX11_may_29 : decode cX11_may 29 = .ok (.aload_n 0, 1) := by decide +kernel
theorem dX11_may_30 : decode cX11_may 30 = .ok (.getfield 37, 3) := by decide +kernel
theorem dX11_may_33 : decode cX11_may 33 = .ok (.aload_n 0, 1) := by decide +kernel
theorem dX11_may_34 : decode cX11_may 34 = .ok (.getfield 30, 3) := by decide +kernel
theorem dX11_may_37 : decode cX11_may 37 = .ok (.iload_n 2, 1) := by decide +kernel
theorem dX11_may_38 : decode cX11_may 38 = .ok (.iload_n 3, 1) := by decide +kernel
theorem dX11_may_39 : decode cX11_may 39 = .ok (.invokevirtual 117, 3) := by decide +kernel
theorem dX11_may_42 : decode cX11_may 42 = .ok (.aload_n 0, 1) := by decide +kernel
theorem dX11_may_43 : decode cX11_may 43 = .ok (.getfield 37, 3) := by decide +kernel
theorem dX11_may_46 : decode cX11_may 46 = .ok (.aload 4, 2) := by decide +kernel
theorem dX11_may_48 : decode cX11_may 48 = .ok (.iload_n 3, 1) := by decide +kernel
theorem dX11_may_49 : decode cX11_may 49 = .ok (.invokevirtual 179, 3) := by decide +kernel
theorem dX11_may_52 : decode cX11_may 52 = .ok (.ifCond .eq 7, 3) := by decide +kernel
theorem dX11_may_55 : decode cX11_may 55 = .ok (.iconst 1, 1) := by decide +kernel
theorem dX11_may_56 : decode cX11_may 56 = .ok (.goto 4, 3) := by decide +kernel
theorem dX11_may_59 : decode cX11_may 59 = .ok (.iconst 0, 1) := by decide +kernel
theorem dX11_may_60 : decode cX11_may 60 = .ok (.ireturn, 1) := by decide +kernel
theorem dX11_bars_0 : decode cX11_bars 0 = .ok (.aload_n 0, 1) := by decide +kernel
theorem dX11_bars_1 : decode cX11_bars 1 = .ok (.iload_n 1, 1) := by decide +kernel
theorem dX11_bars_2 : decode cX11_bars 2 = .ok (.invokevirtual 150, 3) := by decide +kernel
theorem dX11_bars_5 : decode cX11_bars 5 = .ok (.astore 4, 2) := by decide +kernel
theorem dX11_bars_7 : decode cX11_bars 7 = .ok (.aload 4, 2) := by decide +kernel
theorem dX11_bars_9 : decode cX11_bars 9 = .ok (.ifnull 18, 3) := by decide +kernel
theorem dX11_bars_12 : decode cX11_bars 12 = .ok (.aload_n 0, 1) := by decide +kernel
theorem dX11_bars_13 : decode cX11_bars 13 = .ok (.iload_n 2, 1) := by decide +kernel
theorem dX11_bars_14 : decode cX11_bars 14 = .ok (.invokevirtual 88, 3) := by decide +kernel
theorem dX11_bars_17 : decode cX11_bars 17 = .ok (.ifCond .eq 10, 3) := by decide +kernel
theorem dX11_bars_20 : decode cX11_bars 20 = .ok (.iload_n 3, 1) := by decide +kernel
theorem dX11_bars_21 : decode cX11_bars 21 = .ok (.invokestatic 92, 3) := by decide +kernel
theorem dX11_bars_24 : decode cX11_bars 24 = .ok (.ifCond .ne 5, 3) := by decide +kernel
theorem dX11_bars_27 : decode cX11_bars 27 = .ok (.iconst (-1), 1) := by decide +kernel
theorem dX11_bars_28 : decode cX11_bars 28 = .ok (.ireturn, 1) := by decide +kernel
theorem dX11_bars_29 : decode cX11_bars 29 = .ok (.aload_n 0, 1) := by decide +kernel
theorem dX11_bars_30 : decode cX11_bars 30 = .ok (.getfield 37, 3) := by decide +kernel
theorem dX11_bars_33 : decode cX11_bars 33 = .ok (.aload_n 0, 1) := by decide +kernel
theorem dX11_bars_34 : decode cX11_bars 34 = .ok (.getfield 30, 3) := by decide +kernel
theorem dX11_bars_37 : decode cX11_bars 37 = .ok (.iload_n 2, 1) := by decide +kernel
theorem dX11_bars_38 : decode cX11_bars 38 = .ok (.iload_n 3, 1) := by decide +kernel
theorem dX11_bars_39 : decode cX11_bars 39 = .ok (.invokevirtual 117, 3) := by decide +kernel
theorem dX11_bars_42 : decode cX11_bars 42 = .ok (.aload_n 0, 1) := by decide +kernel
theorem dX11_bars_43 : decode cX11_bars 43 = .ok (.getfield 37, 3) := by decide +kernel
theorem dX11_bars_46 : decode cX11_bars 46 = .ok (.aload 4, 2) := by decide +kernel
theorem dX11_bars_48 : decode cX11_bars 48 = .ok (.iload_n 3, 1) := by decide +kernel
theorem dX11_bars_49 : decode cX11_bars 49 = .ok (.invokevirtual 183, 3) := by decide +kernel
theorem dX11_bars_52 : decode cX11_bars 52 = .ok (.ireturn, 1) := by decide +kernel
theorem dX11_order_0 : decode cX11_order 0 = .ok (.aload_n 0, 1) := by decide +kernel
theorem dX11_order_1 : decode cX11_order 1 = .ok (.iload_n 1, 1) := by decide +kernel
theorem dX11_order_2 : decode cX11_order 2 = .ok (.invokevirtual 150, 3) := by decide +kernel
theorem dX11_order_5 : decode cX11_order 5 = .ok (.astore 4, 2) := by decide +kernel
theorem dX11_order_7 : decode cX11_order 7 = .ok (.aload 4, 2) := by decide +kernel
theorem dX11_order_9 : decode cX11_order 9 = .ok (.ifnull 18, 3) := by decide +kernel
theorem dX11_order_12 : decode cX11_order 12 = .ok (.aload_n 0, 1) := by decide +kernel
theorem dX11_order_13 : decode cX11_order 13 = .ok (.iload_n 2, 1) := by decide +kernel
theorem dX11_order_14 : decode cX11_order 14 = .ok (.invokevirtual 88, 3) := by decide +kernel
theorem dX11_order_17 : decode cX11_order 17 = .ok (.ifCond .eq 10, 3) := by decide +kernel
theorem dX11_order_20 : decode cX11_order 20 = .ok (.iload_n 3, 1) := by decide +kernel
theorem dX11_order_21 : decode cX11_order 21 = .ok (.invokestatic 92, 3) := by decide +kernel
theorem dX11_order_24 : decode cX11_order 24 = .ok (.ifCond .ne 5, 3) := by decide +kernel
theorem dX11_order_27 : decode cX11_order 27 = .ok (.iconst (-1), 1) := by decide +kernel
theorem dX11_order_28 : decode cX11_order 28 = .ok (.ireturn, 1) := by decide +kernel
theorem dX11_order_29 : decode cX11_order 29 = .ok (.aload_n 0, 1) := by decide +kernel
theorem dX11_order_30 : decode cX11_order 30 = .ok (.getfield 37, 3) := by decide +kernel
theorem dX11_order_33 : decode cX11_order 33 = .ok (.aload_n 0, 1) := by decide +kernel
theorem dX11_order_34 : decode cX11_order 34 = .ok (.getfield 30, 3) := by decide +kernel
theorem dX11_order_37 : decode cX11_order 37 = .ok (.iload_n 2, 1) := by decide +kernel
theorem dX11_order_38 : decode cX11_order 38 = .ok (.iload_n 3, 1) := by decide +kernel
theorem dX11_order_39 : decode cX11_order 39 = .ok (.invokevirtual 117, 3) := by decide +kernel
theorem dX11_order_42 : decode cX11_order 42 = .ok (.aload_n 0, 1) := by decide +kernel
theorem dX11_order_43 : decode cX11_order 43 = .ok (.getfield 37, 3) := by decide +kernel
theorem dX11_order_46 : decode cX11_order 46 = .ok (.aload 4, 2) := by decide +kernel
theorem dX11_order_48 : decode cX11_order 48 = .ok (.iload_n 3, 1) := by decide +kernel
theorem dX11_order_49 : decode cX11_order 49 = .ok (.invokevirtual 187, 3) := by decide +kernel
theorem dX11_order_52 : decode cX11_order 52 = .ok (.ireturn, 1) := by decide +kernel
theorem dX11_list_0 : decode cX11_list 0 = .ok (.aload_n 0, 1) := by decide +kernel
theorem dX11_list_1 : decode cX11_list 1 = .ok (.iload_n 1, 1) := by decide +kernel
theorem dX11_list_2 : decode cX11_list 2 = .ok (.invokevirtual 88, 3) := by decide +kernel
theorem dX11_list_5 : decode cX11_list 5 = .ok (.ifCond .eq 10, 3) := by decide +kernel
theorem dX11_list_8 : decode cX11_list 8 = .ok (.iload_n 2, 1) := by decide +kernel
theorem dX11_list_9 : decode cX11_list 9 = .ok (.invokestatic 92, 3) := by decide +kernel
theorem dX11_list_12 : decode cX11_list 12 = .ok (.ifCond .ne 5, 3) := by decide +kernel
theorem dX11_list_15 : decode cX11_list 15 = .ok (.iconst (-1), 1) := by decide +kernel
theorem dX11_list_16 : decode cX11_list 16 = .ok (.ireturn, 1) := by decide +kernel
theorem dX11_list_17 : decode cX11_list 17 = .ok (.aload_n 0, 1) := by decide +kernel
theorem dX11_list_18 : decode cX11_list 18 = .ok (.getfield 37, 3) := by decide +kernel
theorem dX11_list_21 : decode cX11_list 21 = .ok (.aload_n 0, 1) := by decide +kernel
theorem dX11_list_22 : decode cX11_list 22 = .ok (.getfield 30, 3) := by decide +kernel
theorem dX11_list_25 : decode cX11_list 25 = .ok (.iload_n 1, 1) := by decide +kernel
theorem dX11_list_26 : decode cX11_list 26 = .ok (.iload_n 2, 1) := by decide +kernel
theorem dX11_list_27 : decode cX11_list 27 = .ok (.invokevirtual 117, 3) := by decide +kernel
theorem dX11_list_30 : decode cX11_list 30 = .ok (.iconst 0, 1) := by decide +kernel
theorem dX11_list_31 : decode cX11_list 31 = .ok (.istore_n 3, 1) := by decide +kernel
theorem dX11_list_32 : decode cX11_list 32 = .ok (.iconst 0, 1) := by decide +kernel
theorem dX11_list_33 : decode cX11_list 33 = .ok (.istore 4, 2) := by decide +kernel
theorem dX11_list_35 : decode cX11_list 35 = .ok (.iload 4, 2) := by decide +kernel
theorem dX11_list_37 : decode cX11_list 37 = .ok (.aload_n 0, 1) := by decide +kernel
theorem dX11_list_38 : decode cX11_list 38 = .ok (.getfield 41, 3) := by decide +kernel
theorem dX11_list_41 : decode cX11_list 41 = .ok (.invokevirtual 138, 3) := by decide +kernel
theorem dX11_list_44 : decode cX11_list 44 = .ok (.if_icmp .ge 35, 3) := by decide +kernel
theorem dX11_list_47 : decode cX11_list 47 = .ok (.aload_n 0, 1) := by decide +kernel
theorem dX11_list_48 : decode cX11_list 48 = .ok (.getfield 37, 3) := by decide +kernel
theorem dX11_list_51 : decode cX11_list 51 = .ok (.aload_n 0, 1) := by decide +kernel
theorem dX11_list_52 : decode cX11_list 52 = .ok (.getfield 41, 3) := by decide +kernel
theorem dX11_list_55 : decode cX11_list 55 = .ok (.iload 4, 2) := by decide +kernel
theorem dX11_list_57 : decode cX11_list 57 = .ok (.invokevirtual 190, 3) := by decide +kernel
theorem dX11_list_60 : decode cX11_list 60 = .ok (.checkcast 141, 3) := by decide +kernel
theorem dX11_list_63 : decode cX11_list 63 = .ok (.iload_n 2, 1) := by decide +kernel
theorem dX11_list_64 : decode cX11_list 64 = .ok (.invokevirtual 179, 3) := by decide +kernel
theorem dX11_list_67 : decode cX11_list 67 = .ok (.ifCond .eq 6, 3) := by decide +kernel
theorem dX11_list_70 : decode cX11_list 70 = .ok (.iinc 3 1, 3) := by decide +kernel
theorem dX11_list_73 : decode cX11_list 73 = .ok (.iinc 4 1, 3) := by decide +kernel
theorem dX11_list_76 : decode cX11_list 76 = .ok (.goto (-41), 3) := by decide +kernel
theorem dX11_list_79 : decode cX11_list 79 = .ok (.iload_n 3, 1) := by decide +kernel
theorem dX11_list_80 : decode cX11_list 80 = .ok (.ireturn, 1) := by decide +kernel
theorem dX11_next_0 : decode cX11_next 0 = .ok (.aload_n 0, 1) := by decide +kernel
theorem dX11_next_1 : decode cX11_next 1 = .ok (.iload_n 1, 1) := by decide +kernel
theorem dX11_next_2 : decode cX11_next 2 = .ok (.invokevirtual 88, 3) := by decide +kernel
theorem dX11_next_5 : decode cX11_next 5 = .ok (.ifCond .eq 10, 3) := by decide +kernel
theorem dX11_next_8 : decode cX11_next 8 = .ok (.iload_n 2, 1) := by decide +kernel
theorem dX11_next_9 : decode cX11_next 9 = .ok (.invokestatic 92, 3) := by decide +kernel
theorem dX11_next_12 : decode cX11_next 12 = .ok (.ifCond .ne 5, 3) := by decide +kernel
theorem dX11_next_15 : decode cX11_next 15 = .ok (.iconst (-1), 1) := by decide +kernel
theorem dX11_next_16 : decode cX11_next 16 = .ok (.ireturn, 1) := by decide +kernel
theorem dX11_next_17 : decode cX11_next 17 = .ok (.aload_n 0, 1) := by decide +kernel
theorem dX11_next_18 : decode cX11_next 18 = .ok (.iload_n 1, 1) := by decide +kernel
theorem dX11_next_19 : decode cX11_next 19 = .ok (.iload_n 2, 1) := by decide +kernel
theorem dX11_next_20 : decode cX11_next 20 = .ok (.invokevirtual 194, 3) := by decide +kernel
theorem dX11_next_23 : decode cX11_next 23 = .ok (.ireturn, 1) := by decide +kernel
theorem dX11_room_0 : decode cX11_room 0 = .ok (.aload_n 0, 1) := by decide +kernel
theorem dX11_room_1 : decode cX11_room 1 = .ok (.iload_n 1, 1) := by decide +kernel
theorem dX11_room_2 : decode cX11_room 2 = .ok (.invokevirtual 88, 3) := by decide +kernel
theorem dX11_room_5 : decode cX11_room 5 = .ok (.ifCond .ne 9, 3) := by decide +kernel
theorem dX11_room_8 : decode cX11_room 8 = .ok (.aload_n 0, 1) := by decide +kernel
theorem dX11_room_9 : decode cX11_room 9 = .ok (.iconst 1, 1) := by decide +kernel
theorem dX11_room_10 : decode cX11_room 10 = .ok (.invokevirtual 74, 3) := by decide +kernel
theorem dX11_room_13 : decode cX11_room 13 = .ok (.ireturn, 1) := by decide +kernel
theorem dX11_room_14 : decode cX11_room 14 = .ok (.aload_n 0, 1) := by decide +kernel
theorem dX11_room_15 : decode cX11_room 15 = .ok (.getfield 44, 3) := by decide +kernel
theorem dX11_room_18 : decode cX11_room 18 = .ok (.invokevirtual 138, 3) := by decide +kernel
theorem dX11_room_21 : decode cX11_room 21 = .ok (.bipush 20, 2) := by decide +kernel
theorem dX11_room_23 : decode cX11_room 23 = .ok (.if_icmp .lt 9, 3) := by decide +kernel
theorem dX11_room_26 : decode cX11_room 26 = .ok (.aload_n 0, 1) := by decide +kernel
theorem dX11_room_27 : decode cX11_room 27 = .ok (.iconst 3, 1) := by decide +kernel
theorem dX11_room_28 : decode cX11_room 28 = .ok (.invokevirtual 74, 3) := by decide +kernel
theorem dX11_room_31 : decode cX11_room 31 = .ok (.ireturn, 1) := by decide +kernel
theorem dX11_room_32 : decode cX11_room 32 = .ok (.aload_n 0, 1) := by decide +kernel
theorem dX11_room_33 : decode cX11_room 33 = .ok (.getfield 44, 3) := by decide +kernel
theorem dX11_room_36 : decode cX11_room 36 = .ok (.new 197, 3) := by decide +kernel
theorem dX11_room_39 : decode cX11_room 39 = .ok (.dup, 1) := by decide +kernel
theorem dX11_room_40 : decode cX11_room 40 = .ok (.iload_n 1, 1) := by decide +kernel
theorem dX11_room_41 : decode cX11_room 41 = .ok (.invokespecial 199, 3) := by decide +kernel
theorem dX11_room_44 : decode cX11_room 44 = .ok (.invokevirtual 146, 3) := by decide +kernel
theorem dX11_room_47 : decode cX11_room 47 = .ok (.pop, 1) := by decide +kernel
theorem dX11_room_48 : decode cX11_room 48 = .ok (.aload_n 0, 1) := by decide +kernel
theorem dX11_room_49 : decode cX11_room 49 = .ok (.aload_n 0, 1) := by decide +kernel
theorem dX11_room_50 : decode cX11_room 50 = .ok (.getfield 44, 3) := by decide +kernel
theorem dX11_room_53 : decode cX11_room 53 = .ok (.invokevirtual 138, 3) := by decide +kernel
theorem dX11_room_56 : decode cX11_room 56 = .ok (.iconst 1, 1) := by decide +kernel
theorem dX11_room_57 : decode cX11_room 57 = .ok (.isub, 1) := by decide +kernel
theorem dX11_room_58 : decode cX11_room 58 = .ok (.invokevirtual 78, 3) := by decide +kernel
theorem dX11_room_61 : decode cX11_room 61 = .ok (.ireturn, 1) := by decide +kernel
theorem dX11_trustee_0 : decode cX11_trustee 0 = .ok (.aload_n 0, 1) := by decide +kernel
theorem dX11_trustee_1 : decode cX11_trustee 1 = .ok (.getfield 53, 3) := by decide +kernel
theorem dX11_trustee_4 : decode cX11_trustee 4 = .ok (.getfield 201, 3) := by decide +kernel
theorem dX11_trustee_7 : decode cX11_trustee 7 = .ok (.bipush 8, 2) := by decide +kernel
theorem dX11_trustee_9 : decode cX11_trustee 9 = .ok (.if_icmp .lt 9, 3) := by decide +kernel
theorem dX11_trustee_12 : decode cX11_trustee 12 = .ok (.aload_n 0, 1) := by decide +kernel
theorem dX11_trustee_13 : decode cX11_trustee 13 = .ok (.iconst 3, 1) := by decide +kernel
theorem dX11_trustee_14 : decode cX11_trustee 14 = .ok (.invokevirtual 74, 3) := by decide +kernel
theorem dX11_trustee_17 : decode cX11_trustee 17 = .ok (.ireturn, 1) := by decide +kernel
theorem dX11_trustee_18 : decode cX11_trustee 18 = .ok (.aload_n 0, 1) := by decide +kernel
theorem dX11_trustee_19 : decode cX11_trustee 19 = .ok (.getfield 53, 3) := by decide +kernel
theorem dX11_trustee_22 : decode cX11_trustee 22 = .ok (.dup, 1) := by decide +kernel
theorem dX11_trustee_23 : decode cX11_trustee 23 = .ok (.getfield 201, 3) := by decide +kernel
theorem dX11_trustee_26 : decode cX11_trustee 26 = .ok (.iconst 1, 1) := by decide +kernel
theorem dX11_trustee_27 : decode cX11_trustee 27 = .ok (.iadd, 1) := by decide +kernel
theorem dX11_trustee_28 : decode cX11_trustee 28 = .ok (.putfield 201, 3) := by decide +kernel
theorem dX11_trustee_31 : decode cX11_trustee 31 = .ok (.aload_n 0, 1) := by decide +kernel
theorem dX11_trustee_32 : decode cX11_trustee 32 = .ok (.aload_n 0, 1) := by decide +kernel
theorem dX11_trustee_33 : decode cX11_trustee 33 = .ok (.getfield 53, 3) := by decide +kernel
theorem dX11_trustee_36 : decode cX11_trustee 36 = .ok (.getfield 201, 3) := by decide +kernel
theorem dX11_trustee_39 : decode cX11_trustee 39 = .ok (.iconst 1, 1) := by decide +kernel
theorem dX11_trustee_40 : decode cX11_trustee 40 = .ok (.isub, 1) := by decide +kernel
theorem dX11_trustee_41 : decode cX11_trustee 41 = .ok (.invokevirtual 78, 3) := by decide +kernel
theorem dX11_trustee_44 : decode cX11_trustee 44 = .ok (.ireturn, 1) := by decide +kernel
theorem dX11_away_0 : decode cX11_away 0 = .ok (.iload_n 1, 1) := by decide +kernel
theorem dX11_away_1 : decode cX11_away 1 = .ok (.ifCond .lt 14, 3) := by decide +kernel
theorem dX11_away_4 : decode cX11_away 4 = .ok (.iload_n 1, 1) := by decide +kernel
theorem dX11_away_5 : decode cX11_away 5 = .ok (.aload_n 0, 1) := by decide +kernel
theorem dX11_away_6 : decode cX11_away 6 = .ok (.getfield 53, 3) := by decide +kernel
theorem dX11_away_9 : decode cX11_away 9 = .ok (.getfield 201, 3) := by decide +kernel
theorem dX11_away_12 : decode cX11_away 12 = .ok (.if_icmp .lt 11, 3) := by decide +kernel
theorem dX11_away_15 : decode cX11_away 15 = .ok (.aload_n 0, 1) := by decide +kernel
theorem dX11_away_16 : decode cX11_away 16 = .ok (.iconst 1, 1) := by decide +kernel
theorem dX11_away_17 : decode cX11_away 17 = .ok (.invokevirtual 74, 3) := by decide +kernel
theorem dX11_away_20 : decode cX11_away 20 = .ok (.pop, 1) := by decide +kernel
theorem dX11_away_21 : decode cX11_away 21 = .ok (.iconst 0, 1) := by decide +kernel
theorem dX11_away_22 : decode cX11_away 22 = .ok (.ireturn, 1) := by decide +kernel
theorem dX11_away_23 : decode cX11_away 23 = .ok (.aload_n 0, 1) := by decide +kernel
theorem dX11_away_24 : decode cX11_away 24 = .ok (.getfield 53, 3) := by decide +kernel
theorem dX11_away_27 : decode cX11_away 27 = .ok (.iload_n 1, 1) := by decide +kernel
theorem dX11_away_28 : decode cX11_away 28 = .ok (.iload_n 2, 1) := by decide +kernel
theorem dX11_away_29 : decode cX11_away 29 = .ok (.invokevirtual 203, 3) := by decide +kernel
theorem dX11_away_32 : decode cX11_away 32 = .ok (.aload_n 0, 1) := by decide +kernel
theorem dX11_away_33 : decode cX11_away 33 = .ok (.iconst 0, 1) := by decide +kernel
theorem dX11_away_34 : decode cX11_away 34 = .ok (.invokevirtual 78, 3) := by decide +kernel
theorem dX11_away_37 : decode cX11_away 37 = .ok (.pop, 1) := by decide +kernel
theorem dX11_away_38 : decode cX11_away 38 = .ok (.iconst 1, 1) := by decide +kernel
theorem dX11_away_39 : decode cX11_away 39 = .ok (.ireturn, 1) := by decide +kernel
theorem dX11_fill_0 : decode cX11_fill 0 = .ok (.aload_n 0, 1) := by decide +kernel
theorem dX11_fill_1 : decode cX11_fill 1 = .ok (.iload_n 1, 1) := by decide +kernel
theorem dX11_fill_2 : decode cX11_fill 2 = .ok (.invokevirtual 167, 3) := by decide +kernel
theorem dX11_fill_5 : decode cX11_fill 5 = .ok (.astore_n 2, 1) := by decide +kernel
theorem dX11_fill_6 : decode cX11_fill 6 = .ok (.aload_n 2, 1) := by decide +kernel
theorem dX11_fill_7 : decode cX11_fill 7 = .ok (.ifnonnull 9, 3) := by decide +kernel
theorem dX11_fill_10 : decode cX11_fill 10 = .ok (.aload_n 0, 1) := by decide +kernel
theorem dX11_fill_11 : decode cX11_fill 11 = .ok (.iconst 1, 1) := by decide +kernel
theorem dX11_fill_12 : decode cX11_fill 12 = .ok (.invokevirtual 74, 3) := by decide +kernel
theorem dX11_fill_15 : decode cX11_fill 15 = .ok (.ireturn, 1) := by decide +kernel
theorem dX11_fill_16 : decode cX11_fill 16 = .ok (.aload_n 2, 1) := by decide +kernel
theorem dX11_fill_17 : decode cX11_fill 17 = .ok (.getfield 207, 3) := by decide +kernel
theorem dX11_fill_20 : decode cX11_fill 20 = .ok (.ifnull 9, 3) := by decide +kernel
theorem dX11_fill_23 : decode cX11_fill 23 = .ok (.aload_n 0, 1) := by decide +kernel
theorem dX11_fill_24 : decode cX11_fill 24 = .ok (.iconst 5, 1) := by decide +kernel
theorem dX11_fill_25 : decode cX11_fill 25 = .ok (.invokevirtual 74, 3) := by decide +kernel
theorem dX11_fill_28 : decode cX11_fill 28 = .ok (.ireturn, 1) := by decide +kernel
theorem dX11_fill_29 : decode cX11_fill 29 = .ok (.aload_n 0, 1) := by decide +kernel
theorem dX11_fill_30 : decode cX11_fill 30 = .ok (.getfield 53, 3) := by decide +kernel
theorem dX11_fill_33 : decode cX11_fill 33 = .ok (.invokevirtual 211, 3) := by decide +kernel
theorem dX11_fill_36 : decode cX11_fill 36 = .ok (.istore_n 3, 1) := by decide +kernel
theorem dX11_fill_37 : decode cX11_fill 37 = .ok (.aload_n 0, 1) := by decide +kernel
theorem dX11_fill_38 : decode cX11_fill 38 = .ok (.aload_n 2, 1) := by decide +kernel
theorem dX11_fill_39 : decode cX11_fill 39 = .ok (.getfield 214, 3) := by decide +kernel
theorem dX11_fill_42 : decode cX11_fill 42 = .ok (.aload_n 0, 1) := by decide +kernel
theorem dX11_fill_43 : decode cX11_fill 43 = .ok (.getfield 135, 3) := by decide +kernel
theorem dX11_fill_46 : decode cX11_fill 46 = .ok (.invokevirtual 194, 3) := by decide +kernel
theorem dX11_fill_49 : decode cX11_fill 49 = .ok (.istore 4, 2) := by decide +kernel
theorem dX11_fill_51 : decode cX11_fill 51 = .ok (.aload_n 0, 1) := by decide +kernel
theorem dX11_fill_52 : decode cX11_fill 52 = .ok (.iload 4, 2) := by decide +kernel
theorem dX11_fill_54 : decode cX11_fill 54 = .ok (.invokevirtual 150, 3) := by decide +kernel
theorem dX11_fill_57 : decode cX11_fill 57 = .ok (.astore 5, 2) := by decide +kernel
theorem dX11_fill_59 : decode cX11_fill 59 = .ok (.iload_n 3, 1) := by decide +kernel
theorem dX11_fill_60 : decode cX11_fill 60 = .ok (.iconst (-1), 1) := by decide +kernel
theorem dX11_fill_61 : decode cX11_fill 61 = .ok (.if_icmp .eq 8, 3) := by decide +kernel
theorem dX11_fill_64 : decode cX11_fill 64 = .ok (.aload 5, 2) := by decide +kernel
theorem dX11_fill_66 : decode cX11_fill 66 = .ok (.ifnonnull 10, 3) := by decide +kernel
theorem dX11_fill_69 : decode cX11_fill 69 = .ok (.aload_n 0, 1) := by decide +kernel
theorem dX11_fill_70 : decode cX11_fill 70 = .ok (.bipush 6, 2) := by decide +kernel
theorem dX11_fill_72 : decode cX11_fill 72 = .ok (.invokevirtual 74, 3) := by decide +kernel
theorem dX11_fill_75 : decode cX11_fill 75 = .ok (.ireturn, 1) := by decide +kernel
theorem dX11_fill_76 : decode cX11_fill 76 = .ok (.aload_n 0, 1) := by decide +kernel
theorem dX11_fill_77 : decode cX11_fill 77 = .ok (.getfield 47, 3) := by decide +kernel
theorem dX11_fill_80 : decode cX11_fill 80 = .ok (.invokevirtual 138, 3) := by decide +kernel
theorem dX11_fill_83 : decode cX11_fill 83 = .ok (.bipush 100, 2) := by decide +kernel
theorem dX11_fill_85 : decode cX11_fill 85 = .ok (.if_icmp .lt 9, 3) := by decide +kernel
theorem dX11_fill_88 : decode cX11_fill 88 = .ok (.aload_n 0, 1) := by decide +kernel
theorem dX11_fill_89 : decode cX11_fill 89 = .ok (.iconst 3, 1) := by decide +kernel
theorem dX11_fill_90 : decode cX11_fill 90 = .ok (.invokevirtual 74, 3) := by decide +kernel
theorem dX11_fill_93 : decode cX11_fill 93 = .ok (.ireturn, 1) := by decide +kernel
theorem dX11_fill_94 : decode cX11_fill 94 = .ok (.new 217, 3) := by decide +kernel
theorem dX11_fill_97 : decode cX11_fill 97 = .ok (.dup, 1) := by decide +kernel
theorem dX11_fill_98 : decode cX11_fill 98 = .ok (.iload_n 1, 1) := by decide +kernel
theorem dX11_fill_99 : decode cX11_fill 99 = .ok (.iload 4, 2) := by decide +kernel
theorem dX11_fill_101 : decode cX11_fill 101 = .ok (.aload_n 0, 1) := by decide +kernel
theorem dX11_fill_102 : decode cX11_fill 102 = .ok (.getfield 135, 3) := by decide +kernel
theorem dX11_fill_105 : decode cX11_fill 105 = .ok (.invokespecial 219, 3) := by decide +kernel
theorem dX11_fill_108 : decode cX11_fill 108 = .ok (.astore 6, 2) := by decide +kernel
theorem dX11_fill_110 : decode cX11_fill 110 = .ok (.aload_n 0, 1) := by decide +kernel
theorem dX11_fill_111 : decode cX11_fill 111 = .ok (.getfield 47, 3) := by decide +kernel
theorem dX11_fill_114 : decode cX11_fill 114 = .ok (.aload 6, 2) := by decide +kernel
theorem dX11_fill_116 : decode cX11_fill 116 = .ok (.invokevirtual 146, 3) := by decide +kernel
theorem dX11_fill_119 : decode cX11_fill 119 = .ok (.pop, 1) := by decide +kernel
theorem dX11_fill_120 : decode cX11_fill 120 = .ok (.aload_n 2, 1) := by decide +kernel
theorem dX11_fill_121 : decode cX11_fill 121 = .ok (.aload 6, 2) := by decide +kernel
theorem dX11_fill_123 : decode cX11_fill 123 = .ok (.putfield 207, 3) := by decide +kernel
theorem dX11_fill_126 : decode cX11_fill 126 = .ok (.aload_n 2, 1) := by decide +kernel
theorem dX11_fill_127 : decode cX11_fill 127 = .ok (.iload_n 3, 1) := by decide +kernel
theorem dX11_fill_128 : decode cX11_fill 128 = .ok (.putfield 222, 3) := by decide +kernel
theorem dX11_fill_131 : decode cX11_fill 131 = .ok (.aload 5, 2) := by decide +kernel
theorem dX11_fill_133 : decode cX11_fill 133 = .ok (.iload_n 1, 1) := by decide +kernel
theorem dX11_fill_134 : decode cX11_fill 134 = .ok (.putfield 164, 3) := by decide +kernel
theorem dX11_fill_137 : decode cX11_fill 137 = .ok (.aload_n 0, 1) := by decide +kernel
theorem dX11_fill_138 : decode cX11_fill 138 = .ok (.getfield 53, 3) := by decide +kernel
theorem dX11_fill_141 : decode cX11_fill 141 = .ok (.iload_n 3, 1) := by decide +kernel
theorem dX11_fill_142 : decode cX11_fill 142 = .ok (.invokevirtual 224, 3) := by decide +kernel
theorem dX11_fill_145 : decode cX11_fill 145 = .ok (.aload_n 0, 1) := by decide +kernel
theorem dX11_fill_146 : decode cX11_fill 146 = .ok (.iload 4, 2) := by decide +kernel
theorem dX11_fill_148 : decode cX11_fill 148 = .ok (.invokevirtual 78, 3) := by decide +kernel
theorem dX11_fill_151 : decode cX11_fill 151 = .ok (.ireturn, 1) := by decide +kernel
theorem dX11_leave_0 : decode cX11_leave 0 = .ok (.aload_n 0, 1) := by decide +kernel
theorem dX11_leave_1 : decode cX11_leave 1 = .ok (.iload_n 1, 1) := by decide +kernel
theorem dX11_leave_2 : decode cX11_leave 2 = .ok (.invokevirtual 167, 3) := by decide +kernel
theorem dX11_leave_5 : decode cX11_leave 5 = .ok (.astore_n 2, 1) := by decide +kernel
theorem dX11_leave_6 : decode cX11_leave 6 = .ok (.aload_n 2, 1) := by decide +kernel
theorem dX11_leave_7 : decode cX11_leave 7 = .ok (.ifnonnull 9, 3) := by decide +kernel
theorem dX11_leave_10 : decode cX11_leave 10 = .ok (.aload_n 0, 1) := by decide +kernel
theorem dX11_leave_11 : decode cX11_leave 11 = .ok (.iconst 1, 1) := by decide +kernel
theorem dX11_leave_12 : decode cX11_leave 12 = .ok (.invokevirtual 74, 3) := by decide +kernel
theorem dX11_leave_15 : decode cX11_leave 15 = .ok (.ireturn, 1) := by decide +kernel
theorem dX11_leave_16 : decode cX11_leave 16 = .ok (.aload_n 2, 1) := by decide +kernel
theorem dX11_leave_17 : decode cX11_leave 17 = .ok (.getfield 207, 3) := by decide +kernel
theorem dX11_leave_20 : decode cX11_leave 20 = .ok (.ifnonnull 10, 3) := by decide +kernel
theorem dX11_leave_23 : decode cX11_leave 23 = .ok (.aload_n 0, 1) := by decide +kernel
theorem dX11_leave_24 : decode cX11_leave 24 = .ok (.bipush 6, 2) := by decide +kernel
theorem dX11_leave_26 : decode cX11_leave 26 = .ok (.invokevirtual 74, 3) := by decide +kernel
theorem dX11_leave_29 : decode cX11_leave 29 = .ok (.ireturn, 1) := by decide +kernel
theorem dX11_leave_30 : decode cX11_leave 30 = .ok (.aload_n 2, 1) := by decide +kernel
theorem dX11_leave_31 : decode cX11_leave 31 = .ok (.getfield 207, 3) := by decide +kernel
theorem dX11_leave_34 : decode cX11_leave 34 = .ok (.getfield 227, 3) := by decide +kernel
theorem dX11_leave_37 : decode cX11_leave 37 = .ok (.istore_n 3, 1) := by decide +kernel
theorem dX11_leave_38 : decode cX11_leave 38 = .ok (.aload_n 0, 1) := by decide +kernel
theorem dX11_leave_39 : decode cX11_leave 39 = .ok (.aload_n 2, 1) := by decide +kernel
theorem dX11_leave_40 : decode cX11_leave 40 = .ok (.invokevirtual 171, 3) := by decide +kernel
theorem dX11_leave_43 : decode cX11_leave 43 = .ok (.aload_n 0, 1) := by decide +kernel
theorem dX11_leave_44 : decode cX11_leave 44 = .ok (.iload_n 3, 1) := by decide +kernel
theorem dX11_leave_45 : decode cX11_leave 45 = .ok (.invokevirtual 78, 3) := by decide +kernel
theorem dX11_leave_48 : decode cX11_leave 48 = .ok (.ireturn, 1) := by decide +kernel
theorem dX11_roomOf_0 : decode cX11_roomOf 0 = .ok (.aload_n 0, 1) := by decide +kernel
theorem dX11_roomOf_1 : decode cX11_roomOf 1 = .ok (.iload_n 1, 1) := by decide +kernel
theorem dX11_roomOf_2 : decode cX11_roomOf 2 = .ok (.invokevirtual 167, 3) := by decide +kernel
theorem dX11_roomOf_5 : decode cX11_roomOf 5 = .ok (.astore_n 3, 1) := by decide +kernel
theorem dX11_roomOf_6 : decode cX11_roomOf 6 = .ok (.aload_n 3, 1) := by decide +kernel
theorem dX11_roomOf_7 : decode cX11_roomOf 7 = .ok (.ifnonnull 5, 3) := by decide +kernel
theorem dX11_roomOf_10 : decode cX11_roomOf 10 = .ok (.iconst (-1), 1) := by decide +kernel
theorem dX11_roomOf_11 : decode cX11_roomOf 11 = .ok (.ireturn, 1) := by decide +kernel
theorem dX11_roomOf_12 : decode cX11_roomOf 12 = .ok (.iload_n 2, 1) := by decide +kernel
theorem dX11_roomOf_13 : decode cX11_roomOf 13 = .ok (.tableswitch 81 0 3 #[31, 36, 56, 76], 31) := by decide +kernel
theorem dX11_roomOf_44 : decode cX11_roomOf 44 = .ok (.aload_n 3, 1) := by decide +kernel
theorem dX11_roomOf_45 : decode cX11_roomOf 45 = .ok (.getfield 214, 3) := by decide +kernel
theorem dX11_roomOf_48 : decode cX11_roomOf 48 = .ok (.ireturn, 1) := by decide +kernel
theorem dX11_roomOf_49 : decode cX11_roomOf 49 = .ok (.aload_n 3, 1) := by decide +kernel
theorem dX11_roomOf_50 : decode cX11_roomOf 50 = .ok (.getfield 207, 3) := by decide +kernel
theorem dX11_roomOf_53 : decode cX11_roomOf 53 = .ok (.ifnonnull 8, 3) := by decide +kernel
theorem dX11_roomOf_56 : decode cX11_roomOf 56 = .ok (.bipush (-2), 2) := by decide +kernel
theorem dX11_roomOf_58 : decode cX11_roomOf 58 = .ok (.goto 10, 3) := by decide +kernel
theorem dX11_roomOf_61 : decode cX11_roomOf 61 = .ok (.aload_n 3, 1) := by decide +kernel
theorem dX11_roomOf_62 : decode cX11_roomOf 62 = .ok (.getfield 207, 3) := by decide +kernel
theorem dX11_roomOf_65 : decode cX11_roomOf 65 = .ok (.getfield 227, 3) := by decide +kernel
theorem dX11_roomOf_68 : decode cX11_roomOf 68 = .ok (.ireturn, 1) := by decide +kernel
theorem dX11_roomOf_69 : decode cX11_roomOf 69 = .ok (.aload_n 3, 1) := by decide +kernel
theorem dX11_roomOf_70 : decode cX11_roomOf 70 = .ok (.getfield 207, 3) := by decide +kernel
theorem dX11_roomOf_73 : decode cX11_roomOf 73 = .ok (.ifnonnull 8, 3) := by decide +kernel
theorem dX11_roomOf_76 : decode cX11_roomOf 76 = .ok (.bipush (-2), 2) := by decide +kernel
theorem dX11_roomOf_78 : decode cX11_roomOf 78 = .ok (.goto 10, 3) := by decide +kernel
theorem dX11_roomOf_81 : decode cX11_roomOf 81 = .ok (.aload_n 3, 1) := by decide +kernel
theorem dX11_roomOf_82 : decode cX11_roomOf 82 = .ok (.getfield 207, 3) := by decide +kernel
theorem dX11_roomOf_85 : decode cX11_roomOf 85 = .ok (.getfield 230, 3) := by decide +kernel
theorem dX11_roomOf_88 : decode cX11_roomOf 88 = .ok (.ireturn, 1) := by decide +kernel
theorem dX11_roomOf_89 : decode cX11_roomOf 89 = .ok (.aload_n 3, 1) := by decide +kernel
theorem dX11_roomOf_90 : decode cX11_roomOf 90 = .ok (.getfield 222, 3) := by decide +kernel
theorem dX11_roomOf_93 : decode cX11_roomOf 93 = .ok (.ireturn, 1) := by decide +kernel
theorem dX11_roomOf_94 : decode cX11_roomOf 94 = .ok (.iconst (-1), 1) := by decide +kernel
theorem dX11_roomOf_95 : decode cX11_roomOf 95 = .ok (.ireturn, 1) := by decide +kernel
theorem dX11_had_0 : decode cX11_had 0 = .ok (.aload_n 0, 1) := by decide +kernel
theorem dX11_had_1 : decode cX11_had 1 = .ok (.iload_n 1, 1) := by decide +kernel
theorem dX11_had_2 : decode cX11_had 2 = .ok (.invokevirtual 167, 3) := by decide +kernel
theorem dX11_had_5 : decode cX11_had 5 = .ok (.ifnull 15, 3) := by decide +kernel
theorem dX11_had_8 : decode cX11_had 8 = .ok (.iload_n 2, 1) := by decide +kernel
theorem dX11_had_9 : decode cX11_had 9 = .ok (.ifCond .lt 11, 3) := by decide +kernel
theorem dX11_had_12 : decode cX11_had 12 = .ok (.iload_n 2, 1) := by decide +kernel
theorem dX11_had_13 : decode cX11_had 13 = .ok (.aload_n 0, 1) := by decide +kernel
theorem dX11_had_14 : decode cX11_had 14 = .ok (.getfield 135, 3) := by decide +kernel
theorem dX11_had_17 : decode cX11_had 17 = .ok (.if_icmp .lt 5, 3) := by decide +kernel
theorem dX11_had_20 : decode cX11_had 20 = .ok (.iconst (-1), 1) := by decide +kernel
theorem dX11_had_21 : decode cX11_had 21 = .ok (.ireturn, 1) := by decide +kernel
theorem dX11_had_22 : decode cX11_had 22 = .ok (.iconst 0, 1) := by decide +kernel
theorem dX11_had_23 : decode cX11_had 23 = .ok (.istore_n 3, 1) := by decide +kernel
theorem dX11_had_24 : decode cX11_had 24 = .ok (.iload_n 3, 1) := by decide +kernel
theorem dX11_had_25 : decode cX11_had 25 = .ok (.aload_n 0, 1) := by decide +kernel
theorem dX11_had_26 : decode cX11_had 26 = .ok (.getfield 47, 3) := by decide +kernel
theorem dX11_had_29 : decode cX11_had 29 = .ok (.invokevirtual 138, 3) := by decide +kernel
theorem dX11_had_32 : decode cX11_had 32 = .ok (.if_icmp .ge 55, 3) := by decide +kernel
theorem dX11_had_35 : decode cX11_had 35 = .ok (.aload_n 0, 1) := by decide +kernel
theorem dX11_had_36 : decode cX11_had 36 = .ok (.getfield 47, 3) := by decide +kernel
theorem dX11_had_39 : decode cX11_had 39 = .ok (.iload_n 3, 1) := by decide +kernel
theorem dX11_had_40 : decode cX11_had 40 = .ok (.invokevirtual 190, 3) := by decide +kernel
theorem dX11_had_43 : decode cX11_had 43 = .ok (.checkcast 217, 3) := by decide +kernel
theorem dX11_had_46 : decode cX11_had 46 = .ok (.astore 4, 2) := by decide +kernel
theorem dX11_had_48 : decode cX11_had 48 = .ok (.aload 4, 2) := by decide +kernel
theorem dX11_had_50 : decode cX11_had 50 = .ok (.getfield 233, 3) := by decide +kernel
theorem dX11_had_53 : decode cX11_had 53 = .ok (.iload_n 1, 1) := by decide +kernel
theorem dX11_had_54 : decode cX11_had 54 = .ok (.if_icmp .ne 27, 3) := by decide +kernel
theorem dX11_had_57 : decode cX11_had 57 = .ok (.aload 4, 2) := by decide +kernel
theorem dX11_had_59 : decode cX11_had 59 = .ok (.getfield 230, 3) := by decide +kernel
theorem dX11_had_62 : decode cX11_had 62 = .ok (.iload_n 2, 1) := by decide +kernel
theorem dX11_had_63 : decode cX11_had 63 = .ok (.if_icmp .gt 18, 3) := by decide +kernel
theorem dX11_had_66 : decode cX11_had 66 = .ok (.iload_n 2, 1) := by decide +kernel
theorem dX11_had_67 : decode cX11_had 67 = .ok (.aload 4, 2) := by decide +kernel
theorem dX11_had_69 : decode cX11_had 69 = .ok (.getfield 234, 3) := by decide +kernel
theorem dX11_had_72 : decode cX11_had 72 = .ok (.if_icmp .ge 9, 3) := by decide +kernel
theorem dX11_had_75 : decode cX11_had 75 = .ok (.aload 4, 2) := by decide +kernel
theorem dX11_had_77 : decode cX11_had 77 = .ok (.getfield 227, 3) := by decide +kernel
theorem dX11_had_80 : decode cX11_had 80 = .ok (.ireturn, 1) := by decide +kernel
theorem dX11_had_81 : decode cX11_had 81 = .ok (.iinc 3 1, 3) := by decide +kernel
theorem dX11_had_84 : decode cX11_had 84 = .ok (.goto (-60), 3) := by decide +kernel
theorem dX11_had_87 : decode cX11_had 87 = .ok (.bipush (-2), 2) := by decide +kernel
theorem dX11_had_89 : decode cX11_had 89 = .ok (.ireturn, 1) := by decide +kernel
theorem dX11_land_0 : decode cX11_land 0 = .ok (.iload_n 1, 1) := by decide +kernel
theorem dX11_land_1 : decode cX11_land 1 = .ok (.ifCond .lt 14, 3) := by decide +kernel
theorem dX11_land_4 : decode cX11_land 4 = .ok (.iload_n 1, 1) := by decide +kernel
theorem dX11_land_5 : decode cX11_land 5 = .ok (.sipush 9999, 3) := by decide +kernel
theorem dX11_land_8 : decode cX11_land 8 = .ok (.if_icmp .gt 7, 3) := by decide +kernel
theorem dX11_land_11 : decode cX11_land 11 = .ok (.iconst 1, 1) := by decide +kernel
theorem dX11_land_12 : decode cX11_land 12 = .ok (.goto 4, 3) := by decide +kernel
theorem dX11_land_15 : decode cX11_land 15 = .ok (.iconst 0, 1) := by decide +kernel
theorem dX11_land_16 : decode cX11_land 16 = .ok (.istore 4, 2) := by decide +kernel
theorem dX11_land_18 : decode cX11_land 18 = .ok (.iload_n 2, 1) := by decide +kernel
theorem dX11_land_19 : decode cX11_land 19 = .ok (.iconst 1, 1) := by decide +kernel
theorem dX11_land_20 : decode cX11_land 20 = .ok (.if_icmp .lt 14, 3) := by decide +kernel
theorem dX11_land_23 : decode cX11_land 23 = .ok (.iload_n 2, 1) := by decide +kernel
theorem dX11_land_24 : decode cX11_land 24 = .ok (.sipush 400, 3) := by decide +kernel
theorem dX11_land_27 : decode cX11_land 27 = .ok (.if_icmp .gt 7, 3) := by decide +kernel
theorem dX11_land_30 : decode cX11_land 30 = .ok (.iconst 1, 1) := by decide +kernel
theorem dX11_land_31 : decode cX11_land 31 = .ok (.goto 4, 3) := by decide +kernel
theorem dX11_land_34 : decode cX11_land 34 = .ok (.iconst 0, 1) := by decide +kernel
theorem dX11_land_35 : decode cX11_land 35 = .ok (.istore 5, 2) := by decide +kernel
theorem dX11_land_37 : decode cX11_land 37 = .ok (.iload 4, 2) := by decide +kernel
theorem dX11_land_39 : decode cX11_land 39 = .ok (.ifCond .eq 22, 3) := by decide +kernel
theorem dX11_land_42 : decode cX11_land 42 = .ok (.iload 5, 2) := by decide +kernel
theorem dX11_land_44 : decode cX11_land 44 = .ok (.ifCond .eq 17, 3) := by decide +kernel
theorem dX11_land_47 : decode cX11_land 47 = .ok (.iload_n 3, 1) := by decide +kernel
theorem dX11_land_48 : decode cX11_land 48 = .ok (.aload_n 0, 1) := by decide +kernel
theorem dX11_land_49 : decode cX11_land 49 = .ok (.getfield 135, 3) := by decide +kernel
theorem dX11_land_52 : decode cX11_land 52 = .ok (.if_icmp .le 9, 3) := by decide +kernel
theorem dX11_land_55 : decode cX11_land 55 = .ok (.iload_n 3, 1) := by decide +kernel
theorem dX11_land_56 : decode cX11_land 56 = .ok (.ldc 237, 2) := by decide +kernel
theorem dX11_land_58 : decode cX11_land 58 = .ok (.if_icmp .le 9, 3) := by decide +kernel
theorem dX11_land_61 : decode cX11_land 61 = .ok (.aload_n 0, 1) := by decide +kernel
theorem dX11_land_62 : decode cX11_land 62 = .ok (.iconst 2, 1) := by decide +kernel
theorem dX11_land_63 : decode cX11_land 63 = .ok (.invokevirtual 74, 3) := by decide +kernel
theorem dX11_land_66 : decode cX11_land 66 = .ok (.ireturn, 1) := by decide +kernel
theorem dX11_land_67 : decode cX11_land 67 = .ok (.aload_n 0, 1) := by decide +kernel
theorem dX11_land_68 : decode cX11_land 68 = .ok (.getfield 57, 3) := by decide +kernel
theorem dX11_land_71 : decode cX11_land 71 = .ok (.invokevirtual 138, 3) := by decide +kernel
theorem dX11_land_74 : decode cX11_land 74 = .ok (.bipush 10, 2) := by decide +kernel
theorem dX11_land_76 : decode cX11_land 76 = .ok (.if_icmp .lt 9, 3) := by decide +kernel
theorem dX11_land_79 : decode cX11_land 79 = .ok (.aload_n 0, 1) := by decide +kernel
theorem dX11_land_80 : decode cX11_land 80 = .ok (.iconst 3, 1) := by decide +kernel
theorem dX11_land_81 : decode cX11_land 81 = .ok (.invokevirtual 74, 3) := by decide +kernel
theorem dX11_land_84 : decode cX11_land 84 = .ok (.ireturn, 1) := by decide +kernel
theorem dX11_land_85 : decode cX11_land 85 = .ok (.aload_n 0, 1) := by decide +kernel
theorem dX11_land_86 : decode cX11_land 86 = .ok (.getfield 57, 3) := by decide +kernel
theorem dX11_land_89 : decode cX11_land 89 = .ok (.new 238, 3) := by decide +kernel
theorem dX11_land_92 : decode cX11_land 92 = .ok (.dup, 1) := by decide +kernel
theorem dX11_land_93 : decode cX11_land 93 = .ok (.iload_n 1, 1) := by decide +kernel
theorem dX11_land_94 : decode cX11_land 94 = .ok (.iload_n 2, 1) := by decide +kernel
theorem dX11_land_95 : decode cX11_land 95 = .ok (.iload_n 3, 1) := by decide +kernel
theorem dX11_land_96 : decode cX11_land 96 = .ok (.invokespecial 240, 3) := by decide +kernel
theorem dX11_land_99 : decode cX11_land 99 = .ok (.invokevirtual 146, 3) := by decide +kernel
theorem dX11_land_102 : decode cX11_land 102 = .ok (.pop, 1) := by decide +kernel
theorem dX11_land_103 : decode cX11_land 103 = .ok (.aload_n 0, 1) := by decide +kernel
theorem dX11_land_104 : decode cX11_land 104 = .ok (.aload_n 0, 1) := by decide +kernel
theorem dX11_land_105 : decode cX11_land 105 = .ok (.getfield 57, 3) := by decide +kernel
theorem dX11_land_108 : decode cX11_land 108 = .ok (.invokevirtual 138, 3) := by decide +kernel
theorem dX11_land_111 : decode cX11_land 111 = .ok (.iconst 1, 1) := by decide +kernel
theorem dX11_land_112 : decode cX11_land 112 = .ok (.isub, 1) := by decide +kernel
theorem dX11_land_113 : decode cX11_land 113 = .ok (.invokevirtual 78, 3) := by decide +kernel
theorem dX11_land_116 : decode cX11_land 116 = .ok (.ireturn, 1) := by decide +kernel
theorem dX11_dole_0 : decode cX11_dole 0 = .ok (.iload_n 1, 1) := by decide +kernel
theorem dX11_dole_1 : decode cX11_dole 1 = .ok (.ifCond .lt 10, 3) := by decide +kernel
theorem dX11_dole_4 : decode cX11_dole 4 = .ok (.iload_n 1, 1) := by decide +kernel
theorem dX11_dole_5 : decode cX11_dole 5 = .ok (.sipush 999, 3) := by decide +kernel
theorem dX11_dole_8 : decode cX11_dole 8 = .ok (.if_icmp .le 11, 3) := by decide +kernel
theorem dX11_dole_11 : decode cX11_dole 11 = .ok (.aload_n 0, 1) := by decide +kernel
theorem dX11_dole_12 : decode cX11_dole 12 = .ok (.iconst 2, 1) := by decide +kernel
theorem dX11_dole_13 : decode cX11_dole 13 = .ok (.invokevirtual 74, 3) := by decide +kernel
theorem dX11_dole_16 : decode cX11_dole 16 = .ok (.pop, 1) := by decide +kernel
theorem dX11_dole_17 : decode cX11_dole 17 = .ok (.iconst 0, 1) := by decide +kernel
theorem dX11_dole_18 : decode cX11_dole 18 = .ok (.ireturn, 1) := by decide +kernel
theorem dX11_dole_19 : decode cX11_dole 19 = .ok (.aload_n 0, 1) := by decide +kernel
theorem dX11_dole_20 : decode cX11_dole 20 = .ok (.iload_n 1, 1) := by decide +kernel
theorem dX11_dole_21 : decode cX11_dole 21 = .ok (.putfield 67, 3) := by decide +kernel
theorem dX11_dole_24 : decode cX11_dole 24 = .ok (.aload_n 0, 1) := by decide +kernel
theorem dX11_dole_25 : decode cX11_dole 25 = .ok (.iconst 0, 1) := by decide +kernel
theorem dX11_dole_26 : decode cX11_dole 26 = .ok (.invokevirtual 78, 3) := by decide +kernel
theorem dX11_dole_29 : decode cX11_dole 29 = .ok (.pop, 1) := by decide +kernel
theorem dX11_dole_30 : decode cX11_dole 30 = .ok (.iconst 1, 1) := by decide +kernel
theorem dX11_dole_31 : decode cX11_dole 31 = .ok (.ireturn, 1) := by decide +kernel
theorem dX11_pass_0 : decode cX11_pass 0 = .ok (.iload_n 1, 1) := by decide +kernel
theorem dX11_pass_1 : decode cX11_pass 1 = .ok (.iconst 1, 1) := by decide +kernel
theorem dX11_pass_2 : decode cX11_pass 2 = .ok (.if_icmp .lt 21, 3) := by decide +kernel
theorem dX11_pass_5 : decode cX11_pass 5 = .ok (.iload_n 1, 1) := by decide +kernel
theorem dX11_pass_6 : decode cX11_pass 6 = .ok (.sipush 400, 3) := by decide +kernel
theorem dX11_pass_9 : decode cX11_pass 9 = .ok (.if_icmp .gt 14, 3) := by decide +kernel
theorem dX11_pass_12 : decode cX11_pass 12 = .ok (.iload_n 1, 1) := by decide +kernel
theorem dX11_pass_13 : decode cX11_pass 13 = .ok (.ldc 237, 2) := by decide +kernel
theorem dX11_pass_15 : decode cX11_pass 15 = .ok (.aload_n 0, 1) := by decide +kernel
theorem dX11_pass_16 : decode cX11_pass 16 = .ok (.getfield 135, 3) := by decide +kernel
theorem dX11_pass_19 : decode cX11_pass 19 = .ok (.isub, 1) := by decide +kernel
theorem dX11_pass_20 : decode cX11_pass 20 = .ok (.if_icmp .le 9, 3) := by decide +kernel
theorem dX11_pass_23 : decode cX11_pass 23 = .ok (.aload_n 0, 1) := by decide +kernel
theorem dX11_pass_24 : decode cX11_pass 24 = .ok (.iconst 2, 1) := by decide +kernel
theorem dX11_pass_25 : decode cX11_pass 25 = .ok (.invokevirtual 74, 3) := by decide +kernel
theorem dX11_pass_28 : decode cX11_pass 28 = .ok (.ireturn, 1) := by decide +kernel
theorem dX11_pass_29 : decode cX11_pass 29 = .ok (.iconst 0, 1) := by decide +kernel
theorem dX11_pass_30 : decode cX11_pass 30 = .ok (.istore_n 2, 1) := by decide +kernel
theorem dX11_pass_31 : decode cX11_pass 31 = .ok (.iload_n 2, 1) := by decide +kernel
theorem dX11_pass_32 : decode cX11_pass 32 = .ok (.iload_n 1, 1) := by decide +kernel
theorem dX11_pass_33 : decode cX11_pass 33 = .ok (.if_icmp .ge 37, 3) := by decide +kernel
theorem dX11_pass_36 : decode cX11_pass 36 = .ok (.aload_n 0, 1) := by decide +kernel
theorem dX11_pass_37 : decode cX11_pass 37 = .ok (.dup, 1) := by decide +kernel
theorem dX11_pass_38 : decode cX11_pass 38 = .ok (.getfield 135, 3) := by decide +kernel
theorem dX11_pass_41 : decode cX11_pass 41 = .ok (.iconst 1, 1) := by decide +kernel
theorem dX11_pass_42 : decode cX11_pass 42 = .ok (.iadd, 1) := by decide +kernel
theorem dX11_pass_43 : decode cX11_pass 43 = .ok (.putfield 135, 3) := by decide +kernel
theorem dX11_pass_46 : decode cX11_pass 46 = .ok (.aload_n 0, 1) := by decide +kernel
theorem dX11_pass_47 : decode cX11_pass 47 = .ok (.invokevirtual 241, 3) := by decide +kernel
theorem dX11_pass_50 : decode cX11_pass 50 = .ok (.aload_n 0, 1) := by decide +kernel
theorem dX11_pass_51 : decode cX11_pass 51 = .ok (.getfield 135, 3) := by decide +kernel
theorem dX11_pass_54 : decode cX11_pass 54 = .ok (.bipush 7, 2) := by decide +kernel
theorem dX11_pass_56 : decode cX11_pass 56 = .ok (.irem, 1) := by decide +kernel
theorem dX11_pass_57 : decode cX11_pass 57 = .ok (.ifCond .ne 7, 3) := by decide +kernel
theorem dX11_pass_60 : decode cX11_pass 60 = .ok (.aload_n 0, 1) := by decide +kernel
theorem dX11_pass_61 : decode cX11_pass 61 = .ok (.invokevirtual 244, 3) := by decide +kernel
theorem dX11_pass_64 : decode cX11_pass 64 = .ok (.iinc 2 1, 3) := by decide +kernel
theorem dX11_pass_67 : decode cX11_pass 67 = .ok (.goto (-36), 3) := by decide +kernel
theorem dX11_pass_70 : decode cX11_pass 70 = .ok (.aload_n 0, 1) := by decide +kernel
theorem dX11_pass_71 : decode cX11_pass 71 = .ok (.aload_n 0, 1) := by decide +kernel
theorem dX11_pass_72 : decode cX11_pass 72 = .ok (.getfield 135, 3) := by decide +kernel
theorem dX11_pass_75 : decode cX11_pass 75 = .ok (.invokevirtual 78, 3) := by decide +kernel
theorem dX11_pass_78 : decode cX11_pass 78 = .ok (.ireturn, 1) := by decide +kernel
theorem dX11_owed_0 : decode cX11_owed 0 = .ok (.aload_n 0, 1) := by decide +kernel
theorem dX11_owed_1 : decode cX11_owed 1 = .ok (.iload_n 1, 1) := by decide +kernel
theorem dX11_owed_2 : decode cX11_owed 2 = .ok (.invokevirtual 150, 3) := by decide +kernel
theorem dX11_owed_5 : decode cX11_owed 5 = .ok (.astore_n 2, 1) := by decide +kernel
theorem dX11_owed_6 : decode cX11_owed 6 = .ok (.aload_n 2, 1) := by decide +kernel
theorem dX11_owed_7 : decode cX11_owed 7 = .ok (.ifnonnull 7, 3) := by decide +kernel
theorem dX11_owed_10 : decode cX11_owed 10 = .ok (.iconst (-1), 1) := by decide +kernel
theorem dX11_owed_11 : decode cX11_owed 11 = .ok (.goto 7, 3) := by decide +kernel
theorem dX11_owed_14 : decode cX11_owed 14 = .ok (.aload_n 2, 1) := by decide +kernel
theorem dX11_owed_15 : decode cX11_owed 15 = .ok (.getfield 247, 3) := by decide +kernel
theorem dX11_owed_18 : decode cX11_owed 18 = .ok (.ireturn, 1) := by decide +kernel
theorem dX11_got_0 : decode cX11_got 0 = .ok (.aload_n 0, 1) := by decide +kernel
theorem dX11_got_1 : decode cX11_got 1 = .ok (.iload_n 1, 1) := by decide +kernel
theorem dX11_got_2 : decode cX11_got 2 = .ok (.invokevirtual 150, 3) := by decide +kernel
theorem dX11_got_5 : decode cX11_got 5 = .ok (.astore_n 2, 1) := by decide +kernel
theorem dX11_got_6 : decode cX11_got 6 = .ok (.aload_n 2, 1) := by decide +kernel
theorem dX11_got_7 : decode cX11_got 7 = .ok (.ifnonnull 7, 3) := by decide +kernel
theorem dX11_got_10 : decode cX11_got 10 = .ok (.iconst (-1), 1) := by decide +kernel
theorem dX11_got_11 : decode cX11_got 11 = .ok (.goto 7, 3) := by decide +kernel
theorem dX11_got_14 : decode cX11_got 14 = .ok (.aload_n 2, 1) := by decide +kernel
theorem dX11_got_15 : decode cX11_got 15 = .ok (.getfield 250, 3) := by decide +kernel
theorem dX11_got_18 : decode cX11_got 18 = .ok (.ireturn, 1) := by decide +kernel
theorem dX11_count_0 : decode cX11_count 0 = .ok (.iload_n 1, 1) := by decide +kernel
theorem dX11_count_1 : decode cX11_count 1 = .ok (.tableswitch 168 0 11 #[63, 68, 73, 81, 89, 94, 102, 124, 129, 137, 152, 160], 63) := by decide +kernel
theorem dX11_count_64 : decode cX11_count 64 = .ok (.aload_n 0, 1) := by decide +kernel
theorem dX11_count_65 : decode cX11_count 65 = .ok (.getfield 71, 3) := by decide +kernel
theorem dX11_count_68 : decode cX11_count 68 = .ok (.ireturn, 1) := by decide +kernel
theorem dX11_count_69 : decode cX11_count 69 = .ok (.aload_n 0, 1) := by decide +kernel
theorem dX11_count_70 : decode cX11_count 70 = .ok (.getfield 107, 3) := by decide +kernel
theorem dX11_count_73 : decode cX11_count 73 = .ok (.ireturn, 1) := by decide +kernel
theorem dX11_count_74 : decode cX11_count 74 = .ok (.aload_n 0, 1) := by decide +kernel
theorem dX11_count_75 : decode cX11_count 75 = .ok (.getfield 41, 3) := by decide +kernel
theorem dX11_count_78 : decode cX11_count 78 = .ok (.invokevirtual 138, 3) := by decide +kernel
theorem dX11_count_81 : decode cX11_count 81 = .ok (.ireturn, 1) := by decide +kernel
theorem dX11_count_82 : decode cX11_count 82 = .ok (.aload_n 0, 1) := by decide +kernel
theorem dX11_count_83 : decode cX11_count 83 = .ok (.getfield 44, 3) := by decide +kernel
theorem dX11_count_86 : decode cX11_count 86 = .ok (.invokevirtual 138, 3) := by decide +kernel
theorem dX11_count_89 : decode cX11_count 89 = .ok (.ireturn, 1) := by decide +kernel
theorem dX11_count_90 : decode cX11_count 90 = .ok (.aload_n 0, 1) := by decide +kernel
theorem dX11_count_91 : decode cX11_count 91 = .ok (.invokevirtual 253, 3) := by decide +kernel
theorem dX11_count_94 : decode cX11_count 94 = .ok (.ireturn, 1) := by decide +kernel
theorem dX11_count_95 : decode cX11_count 95 = .ok (.aload_n 0, 1) := by decide +kernel
theorem dX11_count_96 : decode cX11_count 96 = .ok (.getfield 53, 3) := by decide +kernel
theorem dX11_count_99 : decode cX11_count 99 = .ok (.getfield 201, 3) := by decide +kernel
theorem dX11_count_102 : decode cX11_count 102 = .ok (.ireturn, 1) := by decide +kernel
theorem dX11_count_103 : decode cX11_count 103 = .ok (.aload_n 0, 1) := by decide +kernel
theorem dX11_count_104 : decode cX11_count 104 = .ok (.getfield 53, 3) := by decide +kernel
theorem dX11_count_107 : decode cX11_count 107 = .ok (.getfield 201, 3) := by decide +kernel
theorem dX11_count_110 : decode cX11_count 110 = .ok (.ifCond .ne 7, 3) := by decide +kernel
theorem dX11_count_113 : decode cX11_count 113 = .ok (.iconst (-1), 1) := by decide +kernel
theorem dX11_count_114 : decode cX11_count 114 = .ok (.goto 10, 3) := by decide +kernel
theorem dX11_count_117 : decode cX11_count 117 = .ok (.aload_n 0, 1) := by decide +kernel
theorem dX11_count_118 : decode cX11_count 118 = .ok (.getfield 53, 3) := by decide +kernel
theorem dX11_count_121 : decode cX11_count 121 = .ok (.getfield 256, 3) := by decide +kernel
theorem dX11_count_124 : decode cX11_count 124 = .ok (.ireturn, 1) := by decide +kernel
theorem dX11_count_125 : decode cX11_count 125 = .ok (.aload_n 0, 1) := by decide +kernel
theorem dX11_count_126 : decode cX11_count 126 = .ok (.getfield 135, 3) := by decide +kernel
theorem dX11_count_129 : decode cX11_count 129 = .ok (.ireturn, 1) := by decide +kernel
theorem dX11_count_130 : decode cX11_count 130 = .ok (.aload_n 0, 1) := by decide +kernel
theorem dX11_count_131 : decode cX11_count 131 = .ok (.getfield 63, 3) := by decide +kernel
theorem dX11_count_134 : decode cX11_count 134 = .ok (.getfield 259, 3) := by decide +kernel
theorem dX11_count_137 : decode cX11_count 137 = .ok (.ireturn, 1) := by decide +kernel
theorem dX11_count_138 : decode cX11_count 138 = .ok (.aload_n 0, 1) := by decide +kernel
theorem dX11_count_139 : decode cX11_count 139 = .ok (.getfield 63, 3) := by decide +kernel
theorem dX11_count_142 : decode cX11_count 142 = .ok (.getfield 262, 3) := by decide +kernel
theorem dX11_count_145 : decode cX11_count 145 = .ok (.ldc2_w 266, 3) := by decide +kernel
theorem dX11_count_148 : decode cX11_count 148 = .ok (.invokestatic 268, 3) := by decide +kernel
theorem dX11_count_151 : decode cX11_count 151 = .ok (.l2i, 1) := by decide +kernel
theorem dX11_count_152 : decode cX11_count 152 = .ok (.ireturn, 1) := by decide +kernel
theorem dX11_count_153 : decode cX11_count 153 = .ok (.aload_n 0, 1) := by decide +kernel
theorem dX11_count_154 : decode cX11_count 154 = .ok (.getfield 57, 3) := by decide +kernel
theorem dX11_count_157 : decode cX11_count 157 = .ok (.invokevirtual 138, 3) := by decide +kernel
theorem dX11_count_160 : decode cX11_count 160 = .ok (.ireturn, 1) := by decide +kernel
theorem dX11_count_161 : decode cX11_count 161 = .ok (.aload_n 0, 1) := by decide +kernel
theorem dX11_count_162 : decode cX11_count 162 = .ok (.getfield 12, 3) := by decide +kernel
theorem dX11_count_165 : decode cX11_count 165 = .ok (.getfield 81, 3) := by decide +kernel
theorem dX11_count_168 : decode cX11_count 168 = .ok (.ireturn, 1) := by decide +kernel
theorem dX11_count_169 : decode cX11_count 169 = .ok (.iconst (-1), 1) := by decide +kernel
theorem dX11_count_170 : decode cX11_count 170 = .ok (.ireturn, 1) := by decide +kernel
theorem dX11_trouble_0 : decode cX11_trouble 0 = .ok (.aload_n 0, 1) := by decide +kernel
theorem dX11_trouble_1 : decode cX11_trouble 1 = .ok (.getfield 114, 3) := by decide +kernel
theorem dX11_trouble_4 : decode cX11_trouble 4 = .ok (.ireturn, 1) := by decide +kernel
theorem dX11_refuse_0 : decode cX11_refuse 0 = .ok (.aload_n 0, 1) := by decide +kernel
theorem dX11_refuse_1 : decode cX11_refuse 1 = .ok (.iload_n 1, 1) := by decide +kernel
theorem dX11_refuse_2 : decode cX11_refuse 2 = .ok (.putfield 114, 3) := by decide +kernel
theorem dX11_refuse_5 : decode cX11_refuse 5 = .ok (.iconst (-1), 1) := by decide +kernel
theorem dX11_refuse_6 : decode cX11_refuse 6 = .ok (.ireturn, 1) := by decide +kernel
theorem dX11_accept_0 : decode cX11_accept 0 = .ok (.aload_n 0, 1) := by decide +kernel
theorem dX11_accept_1 : decode cX11_accept 1 = .ok (.iconst 0, 1) := by decide +kernel
theorem dX11_accept_2 : decode cX11_accept 2 = .ok (.putfield 114, 3) := by decide +kernel
theorem dX11_accept_5 : decode cX11_accept 5 = .ok (.iload_n 1, 1) := by decide +kernel
theorem dX11_accept_6 : decode cX11_accept 6 = .ok (.ireturn, 1) := by decide +kernel
theorem dX11_isWill_0 : decode cX11_isWill 0 = .ok (.iload_n 1, 1) := by decide +kernel
theorem dX11_isWill_1 : decode cX11_isWill 1 = .ok (.ifCond .lt 15, 3) := by decide +kernel
theorem dX11_isWill_4 : decode cX11_isWill 4 = .ok (.iload_n 1, 1) := by decide +kernel
theorem dX11_isWill_5 : decode cX11_isWill 5 = .ok (.aload_n 0, 1) := by decide +kernel
theorem dX11_isWill_6 : decode cX11_isWill 6 = .ok (.getfield 71, 3) := by decide +kernel
theorem dX11_isWill_9 : decode cX11_isWill 9 = .ok (.if_icmp .ge 7, 3) := by decide +kernel
theorem dX11_isWill_12 : decode cX11_isWill 12 = .ok (.iconst 1, 1) := by decide +kernel
theorem dX11_isWill_13 : decode cX11_isWill 13 = .ok (.goto 4, 3) := by decide +kernel
theorem dX11_isWill_16 : decode cX11_isWill 16 = .ok (.iconst 0, 1) := by decide +kernel
theorem dX11_isWill_17 : decode cX11_isWill 17 = .ok (.ireturn, 1) := by decide +kernel
theorem dX11_isDay_0 : decode cX11_isDay 0 = .ok (.iload_n 0, 1) := by decide +kernel
theorem dX11_isDay_1 : decode cX11_isDay 1 = .ok (.ifCond .lt 13, 3) := by decide +kernel
theorem dX11_isDay_4 : decode cX11_isDay 4 = .ok (.iload_n 0, 1) := by decide +kernel
theorem dX11_isDay_5 : decode cX11_isDay 5 = .ok (.ldc 237, 2) := by decide +kernel
theorem dX11_isDay_7 : decode cX11_isDay 7 = .ok (.if_icmp .gt 7, 3) := by decide +kernel
theorem dX11_isDay_10 : decode cX11_isDay 10 = .ok (.iconst 1, 1) := by decide +kernel
theorem dX11_isDay_11 : decode cX11_isDay 11 = .ok (.goto 4, 3) := by decide +kernel
theorem dX11_isDay_14 : decode cX11_isDay 14 = .ok (.iconst 0, 1) := by decide +kernel
theorem dX11_isDay_15 : decode cX11_isDay 15 = .ok (.ireturn, 1) := by decide +kernel
theorem dX11_personAt_0 : decode cX11_personAt 0 = .ok (.iload_n 1, 1) := by decide +kernel
theorem dX11_personAt_1 : decode cX11_personAt 1 = .ok (.ifCond .lt 28, 3) := by decide +kernel
theorem dX11_personAt_4 : decode cX11_personAt 4 = .ok (.iload_n 1, 1) := by decide +kernel
theorem dX11_personAt_5 : decode cX11_personAt 5 = .ok (.aload_n 0, 1) := by decide +kernel
theorem dX11_personAt_6 : decode cX11_personAt 6 = .ok (.getfield 41, 3) := by decide +kernel
theorem dX11_personAt_9 : decode cX11_personAt 9 = .ok (.invokevirtual 138, 3) := by decide +kernel
theorem dX11_personAt_12 : decode cX11_personAt 12 = .ok (.if_icmp .ge 17, 3) := by decide +kernel
theorem dX11_personAt_15 : decode cX11_personAt 15 = .ok (.aload_n 0, 1) := by decide +kernel
theorem dX11_personAt_16 : decode cX11_personAt 16 = .ok (.getfield 41, 3) := by decide +kernel
theorem dX11_personAt_19 : decode cX11_personAt 19 = .ok (.iload_n 1, 1) := by decide +kernel
theorem dX11_personAt_20 : decode cX11_personAt 20 = .ok (.invokevirtual 190, 3) := by decide +kernel
theorem dX11_personAt_23 : decode cX11_personAt 23 = .ok (.checkcast 141, 3) := by decide +kernel
theorem dX11_personAt_26 : decode cX11_personAt 26 = .ok (.goto 4, 3) := by decide +kernel
theorem dX11_personAt_29 : decode cX11_personAt 29 = .ok (.aconst_null, 1) := by decide +kernel
theorem dX11_personAt_30 : decode cX11_personAt 30 = .ok (.areturn, 1) := by decide +kernel
theorem dX11_roomAt_0 : decode cX11_roomAt 0 = .ok (.iload_n 1, 1) := by decide +kernel
theorem dX11_roomAt_1 : decode cX11_roomAt 1 = .ok (.ifCond .lt 28, 3) := by decide +kernel
theorem dX11_roomAt_4 : decode cX11_roomAt 4 = .ok (.iload_n 1, 1) := by decide +kernel
theorem dX11_roomAt_5 : decode cX11_roomAt 5 = .ok (.aload_n 0, 1) := by decide +kernel
theorem dX11_roomAt_6 : decode cX11_roomAt 6 = .ok (.getfield 44, 3) := by decide +kernel
theorem dX11_roomAt_9 : decode cX11_roomAt 9 = .ok (.invokevirtual 138, 3) := by decide +kernel
theorem dX11_roomAt_12 : decode cX11_roomAt 12 = .ok (.if_icmp .ge 17, 3) := by decide +kernel
theorem dX11_roomAt_15 : decode cX11_roomAt 15 = .ok (.aload_n 0, 1) := by decide +kernel
theorem dX11_roomAt_16 : decode cX11_roomAt 16 = .ok (.getfield 44, 3) := by decide +kernel
theorem dX11_roomAt_19 : decode cX11_roomAt 19 = .ok (.iload_n 1, 1) := by decide +kernel
theorem dX11_roomAt_20 : decode cX11_roomAt 20 = .ok (.invokevirtual 190, 3) := by decide +kernel
theorem dX11_roomAt_23 : decode cX11_roomAt 23 = .ok (.checkcast 197, 3) := by decide +kernel
theorem dX11_roomAt_26 : decode cX11_roomAt 26 = .ok (.goto 4, 3) := by decide +kernel
theorem dX11_roomAt_29 : decode cX11_roomAt 29 = .ok (.aconst_null, 1) := by decide +kernel
theorem dX11_roomAt_30 : decode cX11_roomAt 30 = .ok (.areturn, 1) := by decide +kernel
theorem dX11_keepChanges_0 : decode cX11_keepChanges 0 = .ok (.iconst 0, 1) := by decide +kernel
theorem dX11_keepChanges_1 : decode cX11_keepChanges 1 = .ok (.istore_n 3, 1) := by decide +kernel
theorem dX11_keepChanges_2 : decode cX11_keepChanges 2 = .ok (.iload_n 3, 1) := by decide +kernel
theorem dX11_keepChanges_3 : decode cX11_keepChanges 3 = .ok (.aload_n 0, 1) := by decide +kernel
theorem dX11_keepChanges_4 : decode cX11_keepChanges 4 = .ok (.getfield 23, 3) := by decide +kernel
theorem dX11_keepChanges_7 : decode cX11_keepChanges 7 = .ok (.getfield 274, 3) := by decide +kernel
theorem dX11_keepChanges_10 : decode cX11_keepChanges 10 = .ok (.if_icmp .ge 54, 3) := by decide +kernel
theorem dX11_keepChanges_13 : decode cX11_keepChanges 13 = .ok (.aload_n 0, 1) := by decide +kernel
theorem dX11_keepChanges_14 : decode cX11_keepChanges 14 = .ok (.getfield 30, 3) := by decide +kernel
theorem dX11_keepChanges_17 : decode cX11_keepChanges 17 = .ok (.new 126, 3) := by decide +kernel
theorem dX11_keepChanges_20 : decode cX11_keepChanges 20 = .ok (.dup, 1) := by decide +kernel
theorem dX11_keepChanges_21 : decode cX11_keepChanges 21 = .ok (.aload_n 0, 1) := by decide +kernel
theorem dX11_keepChanges_22 : decode cX11_keepChanges 22 = .ok (.getfield 107, 3) := by decide +kernel
theorem dX11_keepChanges_25 : decode cX11_keepChanges 25 = .ok (.iload_n 1, 1) := by decide +kernel
