theorem dX12_in_0 : decode cX12_in 0 = .ok (.lload_n 0, 1) := by decide +kernel
theorem dX12_in_1 : decode cX12_in 1 = .ok (.lload_n 2, 1) := by decide +kernel
theorem dX12_in_2 : decode cX12_in 2 = .ok (.lcmp, 1) := by decide +kernel
theorem dX12_in_3 : decode cX12_in 3 = .ok (.ifCond .lt 14, 3) := by decide +kernel
theorem dX12_in_6 : decode cX12_in 6 = .ok (.lload_n 0, 1) := by decide +kernel
theorem dX12_in_7 : decode cX12_in 7 = .ok (.lload 4, 2) := by decide +kernel
theorem dX12_in_9 : decode cX12_in 9 = .ok (.lcmp, 1) := by decide +kernel
theorem dX12_in_10 : decode cX12_in 10 = .ok (.ifCond .gt 7, 3) := by decide +kernel
theorem dX12_in_13 : decode cX12_in 13 = .ok (.iconst 1, 1) := by decide +kernel
theorem dX12_in_14 : decode cX12_in 14 = .ok (.goto 4, 3) := by decide +kernel
theorem dX12_in_17 : decode cX12_in 17 = .ok (.iconst 0, 1) := by decide +kernel
theorem dX12_in_18 : decode cX12_in 18 = .ok (.ireturn, 1) := by decide +kernel
theorem dX12_isPlace_0 : decode cX12_isPlace 0 = .ok (.iload_n 1, 1) := by decide +kernel
theorem dX12_isPlace_1 : decode cX12_isPlace 1 = .ok (.i2l, 1) := by decide +kernel
theorem dX12_isPlace_2 : decode cX12_isPlace 2 = .ok (.lconst 0, 1) := by decide +kernel
theorem dX12_isPlace_3 : decode cX12_isPlace 3 = .ok (.aload_n 0, 1) := by decide +kernel
theorem dX12_isPlace_4 : decode cX12_isPlace 4 = .ok (.getfield 88, 3) := by decide +kernel
theorem dX12_isPlace_7 : decode cX12_isPlace 7 = .ok (.iconst 1, 1) := by decide +kernel
theorem dX12_isPlace_8 : decode cX12_isPlace 8 = .ok (.isub, 1) := by decide +kernel
theorem dX12_isPlace_9 : decode cX12_isPlace 9 = .ok (.i2l, 1) := by decide +kernel
theorem dX12_isPlace_10 : decode cX12_isPlace 10 = .ok (.invokestatic 91, 3) := by decide +kernel
theorem dX12_isPlace_13 : decode cX12_isPlace 13 = .ok (.ireturn, 1) := by decide +kernel
theorem dX12_isLine_0 : decode cX12_isLine 0 = .ok (.iload_n 1, 1) := by decide +kernel
theorem dX12_isLine_1 : decode cX12_isLine 1 = .ok (.i2l, 1) := by decide +kernel
theorem dX12_isLine_2 : decode cX12_isLine 2 = .ok (.lconst 0, 1) := by decide +kernel
theorem dX12_isLine_3 : decode cX12_isLine 3 = .ok (.aload_n 0, 1) := by decide +kernel
theorem dX12_isLine_4 : decode cX12_isLine 4 = .ok (.getfield 95, 3) := by decide +kernel
theorem dX12_isLine_7 : decode cX12_isLine 7 = .ok (.iconst 1, 1) := by decide +kernel
theorem dX12_isLine_8 : decode cX12_isLine 8 = .ok (.isub, 1) := by decide +kernel
theorem dX12_isLine_9 : decode cX12_isLine 9 = .ok (.i2l, 1) := by decide +kernel
theorem dX12_isLine_10 : decode cX12_isLine 10 = .ok (.invokestatic 91, 3) := by decide +kernel
theorem dX12_isLine_13 : decode cX12_isLine 13 = .ok (.ireturn, 1) := by decide +kernel
theorem dX12_arePlaces_0 : decode cX12_arePlaces 0 = .ok (.aload_n 0, 1) := by decide +kernel
theorem dX12_arePlaces_1 : decode cX12_arePlaces 1 = .ok (.iload_n 1, 1) := by decide +kernel
theorem dX12_arePlaces_2 : decode cX12_arePlaces 2 = .ok (.invokevirtual 98, 3) := by decide +kernel
theorem dX12_arePlaces_5 : decode cX12_arePlaces 5 = .ok (.ifCond .eq 20, 3) := by decide +kernel
theorem dX12_arePlaces_8 : decode cX12_arePlaces 8 = .ok (.aload_n 0, 1) := by decide +kernel
theorem dX12_arePlaces_9 : decode cX12_arePlaces 9 = .ok (.iload_n 2, 1) := by decide +kernel
theorem dX12_arePlaces_10 : decode cX12_arePlaces 10 = .ok (.invokevirtual 98, 3) := by decide +kernel
theorem dX12_arePlaces_13 : decode cX12_arePlaces 13 = .ok (.ifCond .eq 12, 3) := by decide +kernel
theorem dX12_arePlaces_16 : decode cX12_arePlaces 16 = .ok (.iload_n 1, 1) := by decide +kernel
theorem dX12_arePlaces_17 : decode cX12_arePlaces 17 = .ok (.iload_n 2, 1) := by decide +kernel
theorem dX12_arePlaces_18 : decode cX12_arePlaces 18 = .ok (.if_icmp .eq 7, 3) := by decide +kernel
theorem dX12_arePlaces_21 : decode cX12_arePlaces 21 = .ok (.iconst 1, 1) := by decide +kernel
theorem dX12_arePlaces_22 : decode cX12_arePlaces 22 = .ok (.goto 4, 3) := by decide +kernel
theorem dX12_arePlaces_25 : decode cX12_arePlaces 25 = .ok (.iconst 0, 1) := by decide +kernel
theorem dX12_arePlaces_26 : decode cX12_arePlaces 26 = .ok (.ireturn, 1) := by decide +kernel
theorem dX12_costs_0 : decode cX12_costs 0 = .ok (.aload_n 0, 1) := by decide +kernel
theorem dX12_costs_1 : decode cX12_costs 1 = .ok (.getfield 7, 3) := by decide +kernel
theorem dX12_costs_4 : decode cX12_costs 4 = .ok (.iload_n 1, 1) := by decide +kernel
theorem dX12_costs_5 : decode cX12_costs 5 = .ok (.iaload, 1) := by decide +kernel
theorem dX12_costs_6 : decode cX12_costs 6 = .ok (.iconst 3, 1) := by decide +kernel
theorem dX12_costs_7 : decode cX12_costs 7 = .ok (.if_icmp .ne 12, 3) := by decide +kernel
theorem dX12_costs_10 : decode cX12_costs 10 = .ok (.aload_n 0, 1) := by decide +kernel
theorem dX12_costs_11 : decode cX12_costs 11 = .ok (.getfield 22, 3) := by decide +kernel
theorem dX12_costs_14 : decode cX12_costs 14 = .ok (.iload_n 1, 1) := by decide +kernel
theorem dX12_costs_15 : decode cX12_costs 15 = .ok (.iaload, 1) := by decide +kernel
theorem dX12_costs_16 : decode cX12_costs 16 = .ok (.goto 26, 3) := by decide +kernel
theorem dX12_costs_19 : decode cX12_costs 19 = .ok (.aload_n 0, 1) := by decide +kernel
theorem dX12_costs_20 : decode cX12_costs 20 = .ok (.getfield 7, 3) := by decide +kernel
theorem dX12_costs_23 : decode cX12_costs 23 = .ok (.iload_n 1, 1) := by decide +kernel
theorem dX12_costs_24 : decode cX12_costs 24 = .ok (.iaload, 1) := by decide +kernel
theorem dX12_costs_25 : decode cX12_costs 25 = .ok (.iconst 4, 1) := by decide +kernel
theorem dX12_costs_26 : decode cX12_costs 26 = .ok (.if_icmp .ne 14, 3) := by decide +kernel
theorem dX12_costs_29 : decode cX12_costs 29 = .ok (.aload_n 0, 1) := by decide +kernel
theorem dX12_costs_30 : decode cX12_costs 30 = .ok (.getfield 22, 3) := by decide +kernel
theorem dX12_costs_33 : decode cX12_costs 33 = .ok (.iload_n 1, 1) := by decide +kernel
theorem dX12_costs_34 : decode cX12_costs 34 = .ok (.iaload, 1) := by decide +kernel
theorem dX12_costs_35 : decode cX12_costs 35 = .ok (.iconst 1, 1) := by decide +kernel
theorem dX12_costs_36 : decode cX12_costs 36 = .ok (.iadd, 1) := by decide +kernel
theorem dX12_costs_37 : decode cX12_costs 37 = .ok (.goto 5, 3) := by decide +kernel
theorem dX12_costs_40 : decode cX12_costs 40 = .ok (.bipush (-9), 2) := by decide +kernel
theorem dX12_costs_42 : decode cX12_costs 42 = .ok (.ireturn, 1) := by decide +kernel
theorem dX12_costsTrace_0 : decode cX12_costsTrace 0 = .ok (.aload_n 0, 1) := by decide +kernel
theorem dX12_costsTrace_1 : decode cX12_costsTrace 1 = .ok (.getfield 7, 3) := by decide +kernel
theorem dX12_costsTrace_4 : decode cX12_costsTrace 4 = .ok (.iload_n 1, 1) := by decide +kernel
theorem dX12_costsTrace_5 : decode cX12_costsTrace 5 = .ok (.iaload, 1) := by decide +kernel
theorem dX12_costsTrace_6 : decode cX12_costsTrace 6 = .ok (.iconst 3, 1) := by decide +kernel
theorem dX12_costsTrace_7 : decode cX12_costsTrace 7 = .ok (.if_icmp .ne 9, 3) := by decide +kernel
theorem dX12_costsTrace_10 : decode cX12_costsTrace 10 = .ok (.ldc2_w 128, 3) := by decide +kernel
theorem dX12_costsTrace_13 : decode cX12_costsTrace 13 = .ok (.goto 22, 3) := by decide +kernel
theorem dX12_costsTrace_16 : decode cX12_costsTrace 16 = .ok (.aload_n 0, 1) := by decide +kernel
theorem dX12_costsTrace_17 : decode cX12_costsTrace 17 = .ok (.getfield 7, 3) := by decide +kernel
theorem dX12_costsTrace_20 : decode cX12_costsTrace 20 = .ok (.iload_n 1, 1) := by decide +kernel
theorem dX12_costsTrace_21 : decode cX12_costsTrace 21 = .ok (.iaload, 1) := by decide +kernel
theorem dX12_costsTrace_22 : decode cX12_costsTrace 22 = .ok (.iconst 4, 1) := by decide +kernel
theorem dX12_costsTrace_23 : decode cX12_costsTrace 23 = .ok (.if_icmp .ne 9, 3) := by decide +kernel
theorem dX12_costsTrace_26 : decode cX12_costsTrace 26 = .ok (.ldc2_w 130, 3) := by decide +kernel
theorem dX12_costsTrace_29 : decode cX12_costsTrace 29 = .ok (.goto 6, 3) := by decide +kernel
theorem dX12_costsTrace_32 : decode cX12_costsTrace 32 = .ok (.ldc2_w 110, 3) := by decide +kernel
theorem dX12_costsTrace_35 : decode cX12_costsTrace 35 = .ok (.lreturn, 1) := by decide +kernel
theorem dX12_lets_0 : decode cX12_lets 0 = .ok (.aload_n 0, 1) := by decide +kernel
theorem dX12_lets_1 : decode cX12_lets 1 = .ok (.getfield 7, 3) := by decide +kernel
theorem dX12_lets_4 : decode cX12_lets 4 = .ok (.iload_n 1, 1) := by decide +kernel
theorem dX12_lets_5 : decode cX12_lets 5 = .ok (.iaload, 1) := by decide +kernel
theorem dX12_lets_6 : decode cX12_lets 6 = .ok (.iconst 2, 1) := by decide +kernel
theorem dX12_lets_7 : decode cX12_lets 7 = .ok (.if_icmp .ne 8, 3) := by decide +kernel
theorem dX12_lets_10 : decode cX12_lets 10 = .ok (.bipush (-5), 2) := by decide +kernel
theorem dX12_lets_12 : decode cX12_lets 12 = .ok (.goto 27, 3) := by decide +kernel
theorem dX12_lets_15 : decode cX12_lets 15 = .ok (.aload_n 0, 1) := by decide +kernel
theorem dX12_lets_16 : decode cX12_lets 16 = .ok (.getfield 7, 3) := by decide +kernel
theorem dX12_lets_19 : decode cX12_lets 19 = .ok (.iload_n 1, 1) := by decide +kernel
theorem dX12_lets_20 : decode cX12_lets 20 = .ok (.iaload, 1) := by decide +kernel
theorem dX12_lets_21 : decode cX12_lets 21 = .ok (.iconst 1, 1) := by decide +kernel
theorem dX12_lets_22 : decode cX12_lets 22 = .ok (.if_icmp .ne 11, 3) := by decide +kernel
theorem dX12_lets_25 : decode cX12_lets 25 = .ok (.iload_n 2, 1) := by decide +kernel
theorem dX12_lets_26 : decode cX12_lets 26 = .ok (.ifCond .ne 7, 3) := by decide +kernel
theorem dX12_lets_29 : decode cX12_lets 29 = .ok (.iconst 0, 1) := by decide +kernel
theorem dX12_lets_30 : decode cX12_lets 30 = .ok (.goto 9, 3) := by decide +kernel
theorem dX12_lets_33 : decode cX12_lets 33 = .ok (.aload_n 0, 1) := by decide +kernel
theorem dX12_lets_34 : decode cX12_lets 34 = .ok (.getfield 19, 3) := by decide +kernel
theorem dX12_lets_37 : decode cX12_lets 37 = .ok (.iload_n 1, 1) := by decide +kernel
theorem dX12_lets_38 : decode cX12_lets 38 = .ok (.iaload, 1) := by decide +kernel
theorem dX12_lets_39 : decode cX12_lets 39 = .ok (.ireturn, 1) := by decide +kernel
theorem dX12_room_0 : decode cX12_room 0 = .ok (.aload_n 0, 1) := by decide +kernel
theorem dX12_room_1 : decode cX12_room 1 = .ok (.iload_n 1, 1) := by decide +kernel
theorem dX12_room_2 : decode cX12_room 2 = .ok (.iload_n 2, 1) := by decide +kernel
theorem dX12_room_3 : decode cX12_room 3 = .ok (.invokevirtual 155, 3) := by decide +kernel
theorem dX12_room_6 : decode cX12_room 6 = .ok (.istore_n 3, 1) := by decide +kernel
theorem dX12_room_7 : decode cX12_room 7 = .ok (.iload_n 1, 1) := by decide +kernel
theorem dX12_room_8 : decode cX12_room 8 = .ok (.aload_n 0, 1) := by decide +kernel
theorem dX12_room_9 : decode cX12_room 9 = .ok (.getfield 57, 3) := by decide +kernel
theorem dX12_room_12 : decode cX12_room 12 = .ok (.if_icmp .ne 27, 3) := by decide +kernel
theorem dX12_room_15 : decode cX12_room 15 = .ok (.iload_n 3, 1) := by decide +kernel
theorem dX12_room_16 : decode cX12_room 16 = .ok (.bipush (-5), 2) := by decide +kernel
theorem dX12_room_18 : decode cX12_room 18 = .ok (.if_icmp .eq 21, 3) := by decide +kernel
theorem dX12_room_21 : decode cX12_room 21 = .ok (.aload_n 0, 1) := by decide +kernel
theorem dX12_room_22 : decode cX12_room 22 = .ok (.getfield 7, 3) := by decide +kernel
theorem dX12_room_25 : decode cX12_room 25 = .ok (.iload_n 1, 1) := by decide +kernel
theorem dX12_room_26 : decode cX12_room 26 = .ok (.iaload, 1) := by decide +kernel
theorem dX12_room_27 : decode cX12_room 27 = .ok (.iconst 1, 1) := by decide +kernel
theorem dX12_room_28 : decode cX12_room 28 = .ok (.if_icmp .ne 7, 3) := by decide +kernel
theorem dX12_room_31 : decode cX12_room 31 = .ok (.iload_n 2, 1) := by decide +kernel
theorem dX12_room_32 : decode cX12_room 32 = .ok (.ifCond .eq 7, 3) := by decide +kernel
theorem dX12_room_35 : decode cX12_room 35 = .ok (.iconst 1, 1) := by decide +kernel
theorem dX12_room_36 : decode cX12_room 36 = .ok (.goto 4, 3) := by decide +kernel
theorem dX12_room_39 : decode cX12_room 39 = .ok (.iconst 0, 1) := by decide +kernel
theorem dX12_room_40 : decode cX12_room 40 = .ok (.istore 4, 2) := by decide +kernel
theorem dX12_room_42 : decode cX12_room 42 = .ok (.iload_n 3, 1) := by decide +kernel
theorem dX12_room_43 : decode cX12_room 43 = .ok (.bipush (-5), 2) := by decide +kernel
theorem dX12_room_45 : decode cX12_room 45 = .ok (.if_icmp .ne 8, 3) := by decide +kernel
theorem dX12_room_48 : decode cX12_room 48 = .ok (.ldc 159, 2) := by decide +kernel
theorem dX12_room_50 : decode cX12_room 50 = .ok (.goto 15, 3) := by decide +kernel
theorem dX12_room_53 : decode cX12_room 53 = .ok (.iload 4, 2) := by decide +kernel
theorem dX12_room_55 : decode cX12_room 55 = .ok (.ifCond .eq 9, 3) := by decide +kernel
theorem dX12_room_58 : decode cX12_room 58 = .ok (.iload_n 3, 1) := by decide +kernel
theorem dX12_room_59 : decode cX12_room 59 = .ok (.iconst 1, 1) := by decide +kernel
theorem dX12_room_60 : decode cX12_room 60 = .ok (.iadd, 1) := by decide +kernel
theorem dX12_room_61 : decode cX12_room 61 = .ok (.goto 4, 3) := by decide +kernel
theorem dX12_room_64 : decode cX12_room 64 = .ok (.iload_n 3, 1) := by decide +kernel
theorem dX12_room_65 : decode cX12_room 65 = .ok (.ireturn, 1) := by decide +kernel
theorem dX12_sizeOf_0 : decode cX12_sizeOf 0 = .ok (.iconst 0, 1) := by decide +kernel
theorem dX12_sizeOf_1 : decode cX12_sizeOf 1 = .ok (.istore_n 2, 1) := by decide +kernel
theorem dX12_sizeOf_2 : decode cX12_sizeOf 2 = .ok (.iconst 0, 1) := by decide +kernel
theorem dX12_sizeOf_3 : decode cX12_sizeOf 3 = .ok (.istore_n 3, 1) := by decide +kernel
theorem dX12_sizeOf_4 : decode cX12_sizeOf 4 = .ok (.iload_n 3, 1) := by decide +kernel
theorem dX12_sizeOf_5 : decode cX12_sizeOf 5 = .ok (.aload_n 0, 1) := by decide +kernel
theorem dX12_sizeOf_6 : decode cX12_sizeOf 6 = .ok (.getfield 95, 3) := by decide +kernel
theorem dX12_sizeOf_9 : decode cX12_sizeOf 9 = .ok (.if_icmp .ge 102, 3) := by decide +kernel
theorem dX12_sizeOf_12 : decode cX12_sizeOf 12 = .ok (.aload_n 0, 1) := by decide +kernel
theorem dX12_sizeOf_13 : decode cX12_sizeOf 13 = .ok (.getfield 25, 3) := by decide +kernel
theorem dX12_sizeOf_16 : decode cX12_sizeOf 16 = .ok (.iload_n 3, 1) := by decide +kernel
theorem dX12_sizeOf_17 : decode cX12_sizeOf 17 = .ok (.baload, 1) := by decide +kernel
theorem dX12_sizeOf_18 : decode cX12_sizeOf 18 = .ok (.ifCond .ne 87, 3) := by decide +kernel
theorem dX12_sizeOf_21 : decode cX12_sizeOf 21 = .ok (.iload_n 1, 1) := by decide +kernel
theorem dX12_sizeOf_22 : decode cX12_sizeOf 22 = .ok (.aload_n 0, 1) := by decide +kernel
theorem dX12_sizeOf_23 : decode cX12_sizeOf 23 = .ok (.getfield 13, 3) := by decide +kernel
theorem dX12_sizeOf_26 : decode cX12_sizeOf 26 = .ok (.iload_n 3, 1) := by decide +kernel
theorem dX12_sizeOf_27 : decode cX12_sizeOf 27 = .ok (.iaload, 1) := by decide +kernel
theorem dX12_sizeOf_28 : decode cX12_sizeOf 28 = .ok (.ishr, 1) := by decide +kernel
theorem dX12_sizeOf_29 : decode cX12_sizeOf 29 = .ok (.iconst 1, 1) := by decide +kernel
theorem dX12_sizeOf_30 : decode cX12_sizeOf 30 = .ok (.iand, 1) := by decide +kernel
theorem dX12_sizeOf_31 : decode cX12_sizeOf 31 = .ok (.iconst 1, 1) := by decide +kernel
theorem dX12_sizeOf_32 : decode cX12_sizeOf 32 = .ok (.if_icmp .ne 7, 3) := by decide +kernel
theorem dX12_sizeOf_35 : decode cX12_sizeOf 35 = .ok (.iconst 1, 1) := by decide +kernel
theorem dX12_sizeOf_36 : decode cX12_sizeOf 36 = .ok (.goto 4, 3) := by decide +kernel
theorem dX12_sizeOf_39 : decode cX12_sizeOf 39 = .ok (.iconst 0, 1) := by decide +kernel
theorem dX12_sizeOf_40 : decode cX12_sizeOf 40 = .ok (.istore 4, 2) := by decide +kernel
theorem dX12_sizeOf_42 : decode cX12_sizeOf 42 = .ok (.iload_n 1, 1) := by decide +kernel
theorem dX12_sizeOf_43 : decode cX12_sizeOf 43 = .ok (.aload_n 0, 1) := by decide +kernel
theorem dX12_sizeOf_44 : decode cX12_sizeOf 44 = .ok (.getfield 16, 3) := by decide +kernel
theorem dX12_sizeOf_47 : decode cX12_sizeOf 47 = .ok (.iload_n 3, 1) := by decide +kernel
theorem dX12_sizeOf_48 : decode cX12_sizeOf 48 = .ok (.iaload, 1) := by decide +kernel
theorem dX12_sizeOf_49 : decode cX12_sizeOf 49 = .ok (.ishr, 1) := by decide +kernel
theorem dX12_sizeOf_50 : decode cX12_sizeOf 50 = .ok (.iconst 1, 1) := by decide +kernel
theorem dX12_sizeOf_51 : decode cX12_sizeOf 51 = .ok (.iand, 1) := by decide +kernel
theorem dX12_sizeOf_52 : decode cX12_sizeOf 52 = .ok (.iconst 1, 1) := by decide +kernel
theorem dX12_sizeOf_53 : decode cX12_sizeOf 53 = .ok (.if_icmp .ne 7, 3) := by decide +kernel
theorem dX12_sizeOf_56 : decode cX12_sizeOf 56 = .ok (.iconst 1, 1) := by decide +kernel
theorem dX12_sizeOf_57 : decode cX12_sizeOf 57 = .ok (.goto 4, 3) := by decide +kernel
theorem dX12_sizeOf_60 : decode cX12_sizeOf 60 = .ok (.iconst 0, 1) := by decide +kernel
theorem dX12_sizeOf_61 : decode cX12_sizeOf 61 = .ok (.istore 5, 2) := by decide +kernel
theorem dX12_sizeOf_63 : decode cX12_sizeOf 63 = .ok (.iload_n 2, 1) := by decide +kernel
theorem dX12_sizeOf_64 : decode cX12_sizeOf 64 = .ok (.iload 4, 2) := by decide +kernel
theorem dX12_sizeOf_66 : decode cX12_sizeOf 66 = .ok (.ifCond .eq 17, 3) := by decide +kernel
theorem dX12_sizeOf_69 : decode cX12_sizeOf 69 = .ok (.iload 5, 2) := by decide +kernel
theorem dX12_sizeOf_71 : decode cX12_sizeOf 71 = .ok (.ifCond .ne 12, 3) := by decide +kernel
theorem dX12_sizeOf_74 : decode cX12_sizeOf 74 = .ok (.aload_n 0, 1) := by decide +kernel
theorem dX12_sizeOf_75 : decode cX12_sizeOf 75 = .ok (.iload_n 3, 1) := by decide +kernel
theorem dX12_sizeOf_76 : decode cX12_sizeOf 76 = .ok (.iconst 1, 1) := by decide +kernel
theorem dX12_sizeOf_77 : decode cX12_sizeOf 77 = .ok (.invokevirtual 160, 3) := by decide +kernel
theorem dX12_sizeOf_80 : decode cX12_sizeOf 80 = .ok (.goto 23, 3) := by decide +kernel
theorem dX12_sizeOf_83 : decode cX12_sizeOf 83 = .ok (.iload 5, 2) := by decide +kernel
theorem dX12_sizeOf_85 : decode cX12_sizeOf 85 = .ok (.ifCond .eq 17, 3) := by decide +kernel
theorem dX12_sizeOf_88 : decode cX12_sizeOf 88 = .ok (.iload 4, 2) := by decide +kernel
theorem dX12_sizeOf_90 : decode cX12_sizeOf 90 = .ok (.ifCond .ne 12, 3) := by decide +kernel
theorem dX12_sizeOf_93 : decode cX12_sizeOf 93 = .ok (.aload_n 0, 1) := by decide +kernel
theorem dX12_sizeOf_94 : decode cX12_sizeOf 94 = .ok (.iload_n 3, 1) := by decide +kernel
theorem dX12_sizeOf_95 : decode cX12_sizeOf 95 = .ok (.iconst 0, 1) := by decide +kernel
theorem dX12_sizeOf_96 : decode cX12_sizeOf 96 = .ok (.invokevirtual 160, 3) := by decide +kernel
theorem dX12_sizeOf_99 : decode cX12_sizeOf 99 = .ok (.goto 4, 3) := by decide +kernel
theorem dX12_sizeOf_102 : decode cX12_sizeOf 102 = .ok (.iconst 0, 1) := by decide +kernel
theorem dX12_sizeOf_103 : decode cX12_sizeOf 103 = .ok (.iadd, 1) := by decide +kernel
theorem dX12_sizeOf_104 : decode cX12_sizeOf 104 = .ok (.istore_n 2, 1) := by decide +kernel
theorem dX12_sizeOf_105 : decode cX12_sizeOf 105 = .ok (.iinc 3 1, 3) := by decide +kernel
theorem dX12_sizeOf_108 : decode cX12_sizeOf 108 = .ok (.goto (-104), 3) := by decide +kernel
theorem dX12_sizeOf_111 : decode cX12_sizeOf 111 = .ok (.iload_n 2, 1) := by decide +kernel
theorem dX12_sizeOf_112 : decode cX12_sizeOf 112 = .ok (.ldc 159, 2) := by decide +kernel
theorem dX12_sizeOf_114 : decode cX12_sizeOf 114 = .ok (.if_icmp .ge 7, 3) := by decide +kernel
theorem dX12_sizeOf_117 : decode cX12_sizeOf 117 = .ok (.iload_n 2, 1) := by decide +kernel
theorem dX12_sizeOf_118 : decode cX12_sizeOf 118 = .ok (.goto 5, 3) := by decide +kernel
theorem dX12_sizeOf_121 : decode cX12_sizeOf 121 = .ok (.ldc 159, 2) := by decide +kernel
theorem dX12_sizeOf_123 : decode cX12_sizeOf 123 = .ok (.ireturn, 1) := by decide +kernel
theorem dX12_mostOf_0 : decode cX12_mostOf 0 = .ok (.ldc 159, 2) := by decide +kernel
theorem dX12_mostOf_2 : decode cX12_mostOf 2 = .ok (.istore_n 3, 1) := by decide +kernel
theorem dX12_mostOf_3 : decode cX12_mostOf 3 = .ok (.iconst 0, 1) := by decide +kernel
theorem dX12_mostOf_4 : decode cX12_mostOf 4 = .ok (.istore 4, 2) := by decide +kernel
theorem dX12_mostOf_6 : decode cX12_mostOf 6 = .ok (.iload 4, 2) := by decide +kernel
theorem dX12_mostOf_8 : decode cX12_mostOf 8 = .ok (.iconst 1, 1) := by decide +kernel
theorem dX12_mostOf_9 : decode cX12_mostOf 9 = .ok (.aload_n 0, 1) := by decide +kernel
theorem dX12_mostOf_10 : decode cX12_mostOf 10 = .ok (.getfield 88, 3) := by decide +kernel
theorem dX12_mostOf_13 : decode cX12_mostOf 13 = .ok (.ishl, 1) := by decide +kernel
theorem dX12_mostOf_14 : decode cX12_mostOf 14 = .ok (.if_icmp .ge 49, 3) := by decide +kernel
theorem dX12_mostOf_17 : decode cX12_mostOf 17 = .ok (.iload 4, 2) := by decide +kernel
theorem dX12_mostOf_19 : decode cX12_mostOf 19 = .ok (.iload_n 1, 1) := by decide +kernel
theorem dX12_mostOf_20 : decode cX12_mostOf 20 = .ok (.ishr, 1) := by decide +kernel
theorem dX12_mostOf_21 : decode cX12_mostOf 21 = .ok (.iconst 1, 1) := by decide +kernel
theorem dX12_mostOf_22 : decode cX12_mostOf 22 = .ok (.iand, 1) := by decide +kernel
theorem dX12_mostOf_23 : decode cX12_mostOf 23 = .ok (.iconst 1, 1) := by decide +kernel
theorem dX12_mostOf_24 : decode cX12_mostOf 24 = .ok (.if_icmp .ne 33, 3) := by decide +kernel
theorem dX12_mostOf_27 : decode cX12_mostOf 27 = .ok (.iload 4, 2) := by decide +kernel
theorem dX12_mostOf_29 : decode cX12_mostOf 29 = .ok (.iload_n 2, 1) := by decide +kernel
theorem dX12_mostOf_30 : decode cX12_mostOf 30 = .ok (.ishr, 1) := by decide +kernel
theorem dX12_mostOf_31 : decode cX12_mostOf 31 = .ok (.iconst 1, 1) := by decide +kernel
theorem dX12_mostOf_32 : decode cX12_mostOf 32 = .ok (.iand, 1) := by decide +kernel
theorem dX12_mostOf_33 : decode cX12_mostOf 33 = .ok (.ifCond .ne 24, 3) := by decide +kernel
theorem dX12_mostOf_36 : decode cX12_mostOf 36 = .ok (.aload_n 0, 1) := by decide +kernel
theorem dX12_mostOf_37 : decode cX12_mostOf 37 = .ok (.iload 4, 2) := by decide +kernel
theorem dX12_mostOf_39 : decode cX12_mostOf 39 = .ok (.invokevirtual 163, 3) := by decide +kernel
theorem dX12_mostOf_42 : decode cX12_mostOf 42 = .ok (.istore 5, 2) := by decide +kernel
theorem dX12_mostOf_44 : decode cX12_mostOf 44 = .ok (.iload 5, 2) := by decide +kernel
theorem dX12_mostOf_46 : decode cX12_mostOf 46 = .ok (.iload_n 3, 1) := by decide +kernel
theorem dX12_mostOf_47 : decode cX12_mostOf 47 = .ok (.if_icmp .ge 8, 3) := by decide +kernel
theorem dX12_mostOf_50 : decode cX12_mostOf 50 = .ok (.iload 5, 2) := by decide +kernel
theorem dX12_mostOf_52 : decode cX12_mostOf 52 = .ok (.goto 4, 3) := by decide +kernel
theorem dX12_mostOf_55 : decode cX12_mostOf 55 = .ok (.iload_n 3, 1) := by decide +kernel
theorem dX12_mostOf_56 : decode cX12_mostOf 56 = .ok (.istore_n 3, 1) := by decide +kernel
theorem dX12_mostOf_57 : decode cX12_mostOf 57 = .ok (.iinc 4 1, 3) := by decide +kernel
theorem dX12_mostOf_60 : decode cX12_mostOf 60 = .ok (.goto (-54), 3) := by decide +kernel
theorem dX12_mostOf_63 : decode cX12_mostOf 63 = .ok (.iload_n 3, 1) := by decide +kernel
theorem dX12_mostOf_64 : decode cX12_mostOf 64 = .ok (.ireturn, 1) := by decide +kernel
theorem dX12_asTold_0 : decode cX12_asTold 0 = .ok (.iload_n 0, 1) := by decide +kernel
theorem dX12_asTold_1 : decode cX12_asTold 1 = .ok (.ldc 159, 2) := by decide +kernel
theorem dX12_asTold_3 : decode cX12_asTold 3 = .ok (.if_icmp .ne 8, 3) := by decide +kernel
theorem dX12_asTold_6 : decode cX12_asTold 6 = .ok (.bipush (-5), 2) := by decide +kernel
theorem dX12_asTold_8 : decode cX12_asTold 8 = .ok (.goto 4, 3) := by decide +kernel
theorem dX12_asTold_11 : decode cX12_asTold 11 = .ok (.iload_n 0, 1) := by decide +kernel
theorem dX12_asTold_12 : decode cX12_asTold 12 = .ok (.ireturn, 1) := by decide +kernel
theorem dX12_most_0 : decode cX12_most 0 = .ok (.aload_n 0, 1) := by decide +kernel
theorem dX12_most_1 : decode cX12_most 1 = .ok (.iconst 0, 1) := by decide +kernel
theorem dX12_most_2 : decode cX12_most 2 = .ok (.putfield 85, 3) := by decide +kernel
theorem dX12_most_5 : decode cX12_most 5 = .ok (.aload_n 0, 1) := by decide +kernel
theorem dX12_most_6 : decode cX12_most 6 = .ok (.iload_n 1, 1) := by decide +kernel
theorem dX12_most_7 : decode cX12_most 7 = .ok (.iload_n 2, 1) := by decide +kernel
theorem dX12_most_8 : decode cX12_most 8 = .ok (.invokevirtual 143, 3) := by decide +kernel
theorem dX12_most_11 : decode cX12_most 11 = .ok (.ifCond .eq 15, 3) := by decide +kernel
theorem dX12_most_14 : decode cX12_most 14 = .ok (.aload_n 0, 1) := by decide +kernel
theorem dX12_most_15 : decode cX12_most 15 = .ok (.iload_n 1, 1) := by decide +kernel
theorem dX12_most_16 : decode cX12_most 16 = .ok (.iload_n 2, 1) := by decide +kernel
theorem dX12_most_17 : decode cX12_most 17 = .ok (.invokevirtual 166, 3) := by decide +kernel
theorem dX12_most_20 : decode cX12_most 20 = .ok (.invokestatic 170, 3) := by decide +kernel
theorem dX12_most_23 : decode cX12_most 23 = .ok (.goto 4, 3) := by decide +kernel
theorem dX12_most_26 : decode cX12_most 26 = .ok (.iconst (-1), 1) := by decide +kernel
theorem dX12_most_27 : decode cX12_most 27 = .ok (.ireturn, 1) := by decide +kernel
theorem dX12_isMet_0 : decode cX12_isMet 0 = .ok (.iconst 0, 1) := by decide +kernel
theorem dX12_isMet_1 : decode cX12_isMet 1 = .ok (.istore_n 3, 1) := by decide +kernel
theorem dX12_isMet_2 : decode cX12_isMet 2 = .ok (.iconst 0, 1) := by decide +kernel
theorem dX12_isMet_3 : decode cX12_isMet 3 = .ok (.istore 4, 2) := by decide +kernel
theorem dX12_isMet_5 : decode cX12_isMet 5 = .ok (.iload 4, 2) := by decide +kernel
theorem dX12_isMet_7 : decode cX12_isMet 7 = .ok (.iload_n 2, 1) := by decide +kernel
theorem dX12_isMet_8 : decode cX12_isMet 8 = .ok (.if_icmp .ge 28, 3) := by decide +kernel
theorem dX12_isMet_11 : decode cX12_isMet 11 = .ok (.iload_n 3, 1) := by decide +kernel
theorem dX12_isMet_12 : decode cX12_isMet 12 = .ok (.aload_n 0, 1) := by decide +kernel
theorem dX12_isMet_13 : decode cX12_isMet 13 = .ok (.getfield 64, 3) := by decide +kernel
theorem dX12_isMet_16 : decode cX12_isMet 16 = .ok (.iload 4, 2) := by decide +kernel
theorem dX12_isMet_18 : decode cX12_isMet 18 = .ok (.iaload, 1) := by decide +kernel
theorem dX12_isMet_19 : decode cX12_isMet 19 = .ok (.iload_n 1, 1) := by decide +kernel
theorem dX12_isMet_20 : decode cX12_isMet 20 = .ok (.if_icmp .ne 7, 3) := by decide +kernel
theorem dX12_isMet_23 : decode cX12_isMet 23 = .ok (.iconst 1, 1) := by decide +kernel
theorem dX12_isMet_24 : decode cX12_isMet 24 = .ok (.goto 4, 3) := by decide +kernel
theorem dX12_isMet_27 : decode cX12_isMet 27 = .ok (.iconst 0, 1) := by decide +kernel
theorem dX12_isMet_28 : decode cX12_isMet 28 = .ok (.ior, 1) := by decide +kernel
theorem dX12_isMet_29 : decode cX12_isMet 29 = .ok (.istore_n 3, 1) := by decide +kernel
theorem dX12_isMet_30 : decode cX12_isMet 30 = .ok (.iinc 4 1, 3) := by decide +kernel
theorem dX12_isMet_33 : decode cX12_isMet 33 = .ok (.goto (-28), 3) := by decide +kernel
theorem dX12_isMet_36 : decode cX12_isMet 36 = .ok (.iload_n 3, 1) := by decide +kernel
theorem dX12_isMet_37 : decode cX12_isMet 37 = .ok (.ireturn, 1) := by decide +kernel
theorem dX12_bitsOf_0 : decode cX12_bitsOf 0 = .ok (.iconst 0, 1) := by decide +kernel
theorem dX12_bitsOf_1 : decode cX12_bitsOf 1 = .ok (.istore_n 1, 1) := by decide +kernel
theorem dX12_bitsOf_2 : decode cX12_bitsOf 2 = .ok (.iconst 0, 1) := by decide +kernel
theorem dX12_bitsOf_3 : decode cX12_bitsOf 3 = .ok (.istore_n 2, 1) := by decide +kernel
theorem dX12_bitsOf_4 : decode cX12_bitsOf 4 = .ok (.iload_n 2, 1) := by decide +kernel
theorem dX12_bitsOf_5 : decode cX12_bitsOf 5 = .ok (.bipush 12, 2) := by decide +kernel
theorem dX12_bitsOf_7 : decode cX12_bitsOf 7 = .ok (.if_icmp .ge 17, 3) := by decide +kernel
theorem dX12_bitsOf_10 : decode cX12_bitsOf 10 = .ok (.iload_n 1, 1) := by decide +kernel
theorem dX12_bitsOf_11 : decode cX12_bitsOf 11 = .ok (.iload_n 0, 1) := by decide +kernel
theorem dX12_bitsOf_12 : decode cX12_bitsOf 12 = .ok (.iload_n 2, 1) := by decide +kernel
theorem dX12_bitsOf_13 : decode cX12_bitsOf 13 = .ok (.ishr, 1) := by decide +kernel
theorem dX12_bitsOf_14 : decode cX12_bitsOf 14 = .ok (.iconst 1, 1) := by decide +kernel
theorem dX12_bitsOf_15 : decode cX12_bitsOf 15 = .ok (.iand, 1) := by decide +kernel
theorem dX12_bitsOf_16 : decode cX12_bitsOf 16 = .ok (.iadd, 1) := by decide +kernel
theorem dX12_bitsOf_17 : decode cX12_bitsOf 17 = .ok (.istore_n 1, 1) := by decide +kernel
theorem dX12_bitsOf_18 : decode cX12_bitsOf 18 = .ok (.iinc 2 1, 3) := by decide +kernel
theorem dX12_bitsOf_21 : decode cX12_bitsOf 21 = .ok (.goto (-17), 3) := by decide +kernel
theorem dX12_bitsOf_24 : decode cX12_bitsOf 24 = .ok (.iload_n 1, 1) := by decide +kernel
theorem dX12_bitsOf_25 : decode cX12_bitsOf 25 = .ok (.ireturn, 1) := by decide +kernel
theorem dX12_cutsOf_0 : decode cX12_cutsOf 0 = .ok (.aload_n 0, 1) := by decide +kernel
theorem dX12_cutsOf_1 : decode cX12_cutsOf 1 = .ok (.iconst 0, 1) := by decide +kernel
theorem dX12_cutsOf_2 : decode cX12_cutsOf 2 = .ok (.putfield 192, 3) := by decide +kernel
theorem dX12_cutsOf_5 : decode cX12_cutsOf 5 = .ok (.aload_n 0, 1) := by decide +kernel
theorem dX12_cutsOf_6 : decode cX12_cutsOf 6 = .ok (.bipush (-9), 2) := by decide +kernel
theorem dX12_cutsOf_8 : decode cX12_cutsOf 8 = .ok (.putfield 195, 3) := by decide +kernel
theorem dX12_cutsOf_11 : decode cX12_cutsOf 11 = .ok (.aload_n 0, 1) := by decide +kernel
theorem dX12_cutsOf_12 : decode cX12_cutsOf 12 = .ok (.bipush (-9), 2) := by decide +kernel
theorem dX12_cutsOf_14 : decode cX12_cutsOf 14 = .ok (.putfield 198, 3) := by decide +kernel
theorem dX12_cutsOf_17 : decode cX12_cutsOf 17 = .ok (.aload_n 0, 1) := by decide +kernel
theorem dX12_cutsOf_18 : decode cX12_cutsOf 18 = .ok (.bipush (-9), 2) := by decide +kernel
theorem dX12_cutsOf_20 : decode cX12_cutsOf 20 = .ok (.putfield 201, 3) := by decide +kernel
theorem dX12_cutsOf_23 : decode cX12_cutsOf 23 = .ok (.iconst 0, 1) := by decide +kernel
theorem dX12_cutsOf_24 : decode cX12_cutsOf 24 = .ok (.istore 5, 2) := by decide +kernel
theorem dX12_cutsOf_26 : decode cX12_cutsOf 26 = .ok (.iload 5, 2) := by decide +kernel
theorem dX12_cutsOf_28 : decode cX12_cutsOf 28 = .ok (.iconst 1, 1) := by decide +kernel
theorem dX12_cutsOf_29 : decode cX12_cutsOf 29 = .ok (.aload_n 0, 1) := by decide +kernel
theorem dX12_cutsOf_30 : decode cX12_cutsOf 30 = .ok (.getfield 88, 3) := by decide +kernel
theorem dX12_cutsOf_33 : decode cX12_cutsOf 33 = .ok (.ishl, 1) := by decide +kernel
theorem dX12_cutsOf_34 : decode cX12_cutsOf 34 = .ok (.if_icmp .ge 144, 3) := by decide +kernel
theorem dX12_cutsOf_37 : decode cX12_cutsOf 37 = .ok (.iload 5, 2) := by decide +kernel
theorem dX12_cutsOf_39 : decode cX12_cutsOf 39 = .ok (.iload_n 1, 1) := by decide +kernel
theorem dX12_cutsOf_40 : decode cX12_cutsOf 40 = .ok (.ishr, 1) := by decide +kernel
theorem dX12_cutsOf_41 : decode cX12_cutsOf 41 = .ok (.iconst 1, 1) := by decide +kernel
theorem dX12_cutsOf_42 : decode cX12_cutsOf 42 = .ok (.iand, 1) := by decide +kernel
theorem dX12_cutsOf_43 : decode cX12_cutsOf 43 = .ok (.iconst 1, 1) := by decide +kernel
theorem dX12_cutsOf_44 : decode cX12_cutsOf 44 = .ok (.if_icmp .ne 128, 3) := by decide +kernel
theorem dX12_cutsOf_47 : decode cX12_cutsOf 47 = .ok (.iload 5, 2) := by decide +kernel
theorem dX12_cutsOf_49 : decode cX12_cutsOf 49 = .ok (.iload_n 2, 1) := by decide +kernel
theorem dX12_cutsOf_50 : decode cX12_cutsOf 50 = .ok (.ishr, 1) := by decide +kernel
theorem dX12_cutsOf_51 : decode cX12_cutsOf 51 = .ok (.iconst 1, 1) := by decide +kernel
theorem dX12_cutsOf_52 : decode cX12_cutsOf 52 = .ok (.iand, 1) := by decide +kernel
theorem dX12_cutsOf_53 : decode cX12_cutsOf 53 = .ok (.ifCond .ne 119, 3) := by decide +kernel
theorem dX12_cutsOf_56 : decode cX12_cutsOf 56 = .ok (.aload_n 0, 1) := by decide +kernel
theorem dX12_cutsOf_57 : decode cX12_cutsOf 57 = .ok (.iload 5, 2) := by decide +kernel
theorem dX12_cutsOf_59 : decode cX12_cutsOf 59 = .ok (.invokevirtual 163, 3) := by decide +kernel
theorem dX12_cutsOf_62 : decode cX12_cutsOf 62 = .ok (.iload_n 3, 1) := by decide +kernel
theorem dX12_cutsOf_63 : decode cX12_cutsOf 63 = .ok (.if_icmp .ne 109, 3) := by decide +kernel
theorem dX12_cutsOf_66 : decode cX12_cutsOf 66 = .ok (.aload_n 0, 1) := by decide +kernel
theorem dX12_cutsOf_67 : decode cX12_cutsOf 67 = .ok (.aload_n 0, 1) := by decide +kernel
theorem dX12_cutsOf_68 : decode cX12_cutsOf 68 = .ok (.getfield 195, 3) := by decide +kernel
theorem dX12_cutsOf_71 : decode cX12_cutsOf 71 = .ok (.bipush (-9), 2) := by decide +kernel
theorem dX12_cutsOf_73 : decode cX12_cutsOf 73 = .ok (.if_icmp .eq 18, 3) := by decide +kernel
theorem dX12_cutsOf_76 : decode cX12_cutsOf 76 = .ok (.iload 5, 2) := by decide +kernel
theorem dX12_cutsOf_78 : decode cX12_cutsOf 78 = .ok (.invokestatic 204, 3) := by decide +kernel
theorem dX12_cutsOf_81 : decode cX12_cutsOf 81 = .ok (.aload_n 0, 1) := by decide +kernel
theorem dX12_cutsOf_82 : decode cX12_cutsOf 82 = .ok (.getfield 195, 3) := by decide +kernel
theorem dX12_cutsOf_85 : decode cX12_cutsOf 85 = .ok (.invokestatic 204, 3) := by decide +kernel
theorem dX12_cutsOf_88 : decode cX12_cutsOf 88 = .ok (.if_icmp .ge 8, 3) := by decide +kernel
theorem dX12_cutsOf_91 : decode cX12_cutsOf 91 = .ok (.iload 5, 2) := by decide +kernel
theorem dX12_cutsOf_93 : decode cX12_cutsOf 93 = .ok (.goto 7, 3) := by decide +kernel
theorem dX12_cutsOf_96 : decode cX12_cutsOf 96 = .ok (.aload_n 0, 1) := by decide +kernel
theorem dX12_cutsOf_97 : decode cX12_cutsOf 97 = .ok (.getfield 195, 3) := by decide +kernel
theorem dX12_cutsOf_100 : decode cX12_cutsOf 100 = .ok (.putfield 195, 3) := by decide +kernel
theorem dX12_cutsOf_103 : decode cX12_cutsOf 103 = .ok (.aload_n 0, 1) := by decide +kernel
theorem dX12_cutsOf_104 : decode cX12_cutsOf 104 = .ok (.aload_n 0, 1) := by decide +kernel
theorem dX12_cutsOf_105 : decode cX12_cutsOf 105 = .ok (.getfield 198, 3) := by decide +kernel
theorem dX12_cutsOf_108 : decode cX12_cutsOf 108 = .ok (.bipush (-9), 2) := by decide +kernel
theorem dX12_cutsOf_110 : decode cX12_cutsOf 110 = .ok (.if_icmp .eq 18, 3) := by decide +kernel
theorem dX12_cutsOf_113 : decode cX12_cutsOf 113 = .ok (.iload 5, 2) := by decide +kernel
theorem dX12_cutsOf_115 : decode cX12_cutsOf 115 = .ok (.invokestatic 204, 3) := by decide +kernel
theorem dX12_cutsOf_118 : decode cX12_cutsOf 118 = .ok (.aload_n 0, 1) := by decide +kernel
theorem dX12_cutsOf_119 : decode cX12_cutsOf 119 = .ok (.getfield 198, 3) := by decide +kernel
theorem dX12_cutsOf_122 : decode cX12_cutsOf 122 = .ok (.invokestatic 204, 3) := by decide +kernel
theorem dX12_cutsOf_125 : decode cX12_cutsOf 125 = .ok (.if_icmp .le 8, 3) := by decide +kernel
theorem dX12_cutsOf_128 : decode cX12_cutsOf 128 = .ok (.iload 5, 2) := by decide +kernel
theorem dX12_cutsOf_130 : decode cX12_cutsOf 130 = .ok (.goto 7, 3) := by decide +kernel
theorem dX12_cutsOf_133 : decode cX12_cutsOf 133 = .ok (.aload_n 0, 1) := by decide +kernel
theorem dX12_cutsOf_134 : decode cX12_cutsOf 134 = .ok (.getfield 198, 3) := by decide +kernel
theorem dX12_cutsOf_137 : decode cX12_cutsOf 137 = .ok (.putfield 198, 3) := by decide +kernel
theorem dX12_cutsOf_140 : decode cX12_cutsOf 140 = .ok (.aload_n 0, 1) := by decide +kernel
theorem dX12_cutsOf_141 : decode cX12_cutsOf 141 = .ok (.aload_n 0, 1) := by decide +kernel
theorem dX12_cutsOf_142 : decode cX12_cutsOf 142 = .ok (.getfield 192, 3) := by decide +kernel
theorem dX12_cutsOf_145 : decode cX12_cutsOf 145 = .ok (.iload 4, 2) := by decide +kernel
theorem dX12_cutsOf_147 : decode cX12_cutsOf 147 = .ok (.if_icmp .ne 8, 3) := by decide +kernel
theorem dX12_cutsOf_150 : decode cX12_cutsOf 150 = .ok (.iload 5, 2) := by decide +kernel
theorem dX12_cutsOf_152 : decode cX12_cutsOf 152 = .ok (.goto 7, 3) := by decide +kernel
theorem dX12_cutsOf_155 : decode cX12_cutsOf 155 = .ok (.aload_n 0, 1) := by decide +kernel
theorem dX12_cutsOf_156 : decode cX12_cutsOf 156 = .ok (.getfield 201, 3) := by decide +kernel
theorem dX12_cutsOf_159 : decode cX12_cutsOf 159 = .ok (.putfield 201, 3) := by decide +kernel
theorem dX12_cutsOf_162 : decode cX12_cutsOf 162 = .ok (.aload_n 0, 1) := by decide +kernel
theorem dX12_cutsOf_163 : decode cX12_cutsOf 163 = .ok (.dup, 1) := by decide +kernel
theorem dX12_cutsOf_164 : decode cX12_cutsOf 164 = .ok (.getfield 192, 3) := by decide +kernel
theorem dX12_cutsOf_167 : decode cX12_cutsOf 167 = .ok (.iconst 1, 1) := by decide +kernel
theorem dX12_cutsOf_168 : decode cX12_cutsOf 168 = .ok (.iadd, 1) := by decide +kernel
theorem dX12_cutsOf_169 : decode cX12_cutsOf 169 = .ok (.putfield 192, 3) := by decide +kernel
theorem dX12_cutsOf_172 : decode cX12_cutsOf 172 = .ok (.iinc 5 1, 3) := by decide +kernel
theorem dX12_cutsOf_175 : decode cX12_cutsOf 175 = .ok (.goto (-149), 3) := by decide +kernel
theorem dX12_cutsOf_178 : decode cX12_cutsOf 178 = .ok (.return_, 1) := by decide +kernel
theorem dX12_cut_0 : decode cX12_cut 0 = .ok (.aload_n 0, 1) := by decide +kernel
theorem dX12_cut_1 : decode cX12_cut 1 = .ok (.iconst 0, 1) := by decide +kernel
theorem dX12_cut_2 : decode cX12_cut 2 = .ok (.putfield 85, 3) := by decide +kernel
theorem dX12_cut_5 : decode cX12_cut 5 = .ok (.aload_n 0, 1) := by decide +kernel
theorem dX12_cut_6 : decode cX12_cut 6 = .ok (.iload_n 1, 1) := by decide +kernel
theorem dX12_cut_7 : decode cX12_cut 7 = .ok (.iload_n 2, 1) := by decide +kernel
theorem dX12_cut_8 : decode cX12_cut 8 = .ok (.invokevirtual 143, 3) := by decide +kernel
theorem dX12_cut_11 : decode cX12_cut 11 = .ok (.ifCond .eq 13, 3) := by decide +kernel
theorem dX12_cut_14 : decode cX12_cut 14 = .ok (.iload_n 3, 1) := by decide +kernel
theorem dX12_cut_15 : decode cX12_cut 15 = .ok (.i2l, 1) := by decide +kernel
theorem dX12_cut_16 : decode cX12_cut 16 = .ok (.lconst 0, 1) := by decide +kernel
theorem dX12_cut_17 : decode cX12_cut 17 = .ok (.lconst 1, 1) := by decide +kernel
theorem dX12_cut_18 : decode cX12_cut 18 = .ok (.invokestatic 91, 3) := by decide +kernel
theorem dX12_cut_21 : decode cX12_cut 21 = .ok (.ifCond .ne 5, 3) := by decide +kernel
theorem dX12_cut_24 : decode cX12_cut 24 = .ok (.iconst (-1), 1) := by decide +kernel
theorem dX12_cut_25 : decode cX12_cut 25 = .ok (.ireturn, 1) := by decide +kernel
theorem dX12_cut_26 : decode cX12_cut 26 = .ok (.aload_n 0, 1) := by decide +kernel
theorem dX12_cut_27 : decode cX12_cut 27 = .ok (.iload_n 1, 1) := by decide +kernel
theorem dX12_cut_28 : decode cX12_cut 28 = .ok (.iload_n 2, 1) := by decide +kernel
theorem dX12_cut_29 : decode cX12_cut 29 = .ok (.invokevirtual 166, 3) := by decide +kernel
theorem dX12_cut_32 : decode cX12_cut 32 = .ok (.istore 4, 2) := by decide +kernel
theorem dX12_cut_34 : decode cX12_cut 34 = .ok (.iload 4, 2) := by decide +kernel
theorem dX12_cut_36 : decode cX12_cut 36 = .ok (.ldc 159, 2) := by decide +kernel
theorem dX12_cut_38 : decode cX12_cut 38 = .ok (.if_icmp .ne 6, 3) := by decide +kernel
theorem dX12_cut_41 : decode cX12_cut 41 = .ok (.bipush (-5), 2) := by decide +kernel
theorem dX12_cut_43 : decode cX12_cut 43 = .ok (.ireturn, 1) := by decide +kernel
theorem dX12_cut_44 : decode cX12_cut 44 = .ok (.aload_n 0, 1) := by decide +kernel
theorem dX12_cut_45 : decode cX12_cut 45 = .ok (.iload_n 1, 1) := by decide +kernel
theorem dX12_cut_46 : decode cX12_cut 46 = .ok (.iload_n 2, 1) := by decide +kernel
theorem dX12_cut_47 : decode cX12_cut 47 = .ok (.iload 4, 2) := by decide +kernel
theorem dX12_cut_49 : decode cX12_cut 49 = .ok (.iconst 0, 1) := by decide +kernel
theorem dX12_cut_50 : decode cX12_cut 50 = .ok (.invokevirtual 207, 3) := by decide +kernel
theorem dX12_cut_53 : decode cX12_cut 53 = .ok (.iload_n 3, 1) := by decide +kernel
theorem dX12_cut_54 : decode cX12_cut 54 = .ok (.ifCond .ne 10, 3) := by decide +kernel
theorem dX12_cut_57 : decode cX12_cut 57 = .ok (.aload_n 0, 1) := by decide +kernel
theorem dX12_cut_58 : decode cX12_cut 58 = .ok (.getfield 195, 3) := by decide +kernel
theorem dX12_cut_61 : decode cX12_cut 61 = .ok (.goto 7, 3) := by decide +kernel
theorem dX12_cut_64 : decode cX12_cut 64 = .ok (.aload_n 0, 1) := by decide +kernel
theorem dX12_cut_65 : decode cX12_cut 65 = .ok (.getfield 198, 3) := by decide +kernel
theorem dX12_cut_68 : decode cX12_cut 68 = .ok (.ireturn, 1) := by decide +kernel
theorem dX12_count_0 : decode cX12_count 0 = .ok (.aload_n 0, 1) := by decide +kernel
theorem dX12_count_1 : decode cX12_count 1 = .ok (.iconst 0, 1) := by decide +kernel
theorem dX12_count_2 : decode cX12_count 2 = .ok (.putfield 85, 3) := by decide +kernel
theorem dX12_count_5 : decode cX12_count 5 = .ok (.aload_n 0, 1) := by decide +kernel
theorem dX12_count_6 : decode cX12_count 6 = .ok (.iload_n 1, 1) := by decide +kernel
theorem dX12_count_7 : decode cX12_count 7 = .ok (.iload_n 2, 1) := by decide +kernel
theorem dX12_count_8 : decode cX12_count 8 = .ok (.invokevirtual 143, 3) := by decide +kernel
theorem dX12_count_11 : decode cX12_count 11 = .ok (.ifCond .ne 5, 3) := by decide +kernel
theorem dX12_count_14 : decode cX12_count 14 = .ok (.iconst (-1), 1) := by decide +kernel
theorem dX12_count_15 : decode cX12_count 15 = .ok (.ireturn, 1) := by decide +kernel
theorem dX12_count_16 : decode cX12_count 16 = .ok (.aload_n 0, 1) := by decide +kernel
theorem dX12_count_17 : decode cX12_count 17 = .ok (.iload_n 1, 1) := by decide +kernel
theorem dX12_count_18 : decode cX12_count 18 = .ok (.iload_n 2, 1) := by decide +kernel
theorem dX12_count_19 : decode cX12_count 19 = .ok (.invokevirtual 166, 3) := by decide +kernel
theorem dX12_count_22 : decode cX12_count 22 = .ok (.istore_n 3, 1) := by decide +kernel
theorem dX12_count_23 : decode cX12_count 23 = .ok (.iload_n 3, 1) := by decide +kernel
theorem dX12_count_24 : decode cX12_count 24 = .ok (.ldc 159, 2) := by decide +kernel
theorem dX12_count_26 : decode cX12_count 26 = .ok (.if_icmp .ne 6, 3) := by decide +kernel
theorem dX12_count_29 : decode cX12_count 29 = .ok (.bipush (-5), 2) := by decide +kernel
theorem dX12_count_31 : decode cX12_count 31 = .ok (.ireturn, 1) := by decide +kernel
theorem dX12_count_32 : decode cX12_count 32 = .ok (.aload_n 0, 1) := by decide +kernel
theorem dX12_count_33 : decode cX12_count 33 = .ok (.iload_n 1, 1) := by decide +kernel
theorem dX12_count_34 : decode cX12_count 34 = .ok (.iload_n 2, 1) := by decide +kernel
theorem dX12_count_35 : decode cX12_count 35 = .ok (.iload_n 3, 1) := by decide +kernel
theorem dX12_count_36 : decode cX12_count 36 = .ok (.iconst 0, 1) := by decide +kernel
theorem dX12_count_37 : decode cX12_count 37 = .ok (.invokevirtual 207, 3) := by decide +kernel
theorem dX12_count_40 : decode cX12_count 40 = .ok (.aload_n 0, 1) := by decide +kernel
theorem dX12_count_41 : decode cX12_count 41 = .ok (.getfield 192, 3) := by decide +kernel
theorem dX12_count_44 : decode cX12_count 44 = .ok (.ireturn, 1) := by decide +kernel
theorem dX12_next_0 : decode cX12_next 0 = .ok (.aload_n 0, 1) := by decide +kernel
theorem dX12_next_1 : decode cX12_next 1 = .ok (.iconst 0, 1) := by decide +kernel
theorem dX12_next_2 : decode cX12_next 2 = .ok (.putfield 85, 3) := by decide +kernel
theorem dX12_next_5 : decode cX12_next 5 = .ok (.aload_n 0, 1) := by decide +kernel
theorem dX12_next_6 : decode cX12_next 6 = .ok (.iload_n 1, 1) := by decide +kernel
theorem dX12_next_7 : decode cX12_next 7 = .ok (.iload_n 2, 1) := by decide +kernel
theorem dX12_next_8 : decode cX12_next 8 = .ok (.invokevirtual 143, 3) := by decide +kernel
theorem dX12_next_11 : decode cX12_next 11 = .ok (.ifCond .eq 7, 3) := by decide +kernel
theorem dX12_next_14 : decode cX12_next 14 = .ok (.iload_n 3, 1) := by decide +kernel
theorem dX12_next_15 : decode cX12_next 15 = .ok (.ifCond .ge 5, 3) := by decide +kernel
theorem dX12_next_18 : decode cX12_next 18 = .ok (.iconst (-1), 1) := by decide +kernel
theorem dX12_next_19 : decode cX12_next 19 = .ok (.ireturn, 1) := by decide +kernel
theorem dX12_next_20 : decode cX12_next 20 = .ok (.aload_n 0, 1) := by decide +kernel
theorem dX12_next_21 : decode cX12_next 21 = .ok (.iload_n 1, 1) := by decide +kernel
theorem dX12_next_22 : decode cX12_next 22 = .ok (.iload_n 2, 1) := by decide +kernel
theorem dX12_next_23 : decode cX12_next 23 = .ok (.invokevirtual 166, 3) := by decide +kernel
theorem dX12_next_26 : decode cX12_next 26 = .ok (.istore 4, 2) := by decide +kernel
theorem dX12_next_28 : decode cX12_next 28 = .ok (.iload 4, 2) := by decide +kernel
theorem dX12_next_30 : decode cX12_next 30 = .ok (.ldc 159, 2) := by decide +kernel
theorem dX12_next_32 : decode cX12_next 32 = .ok (.if_icmp .ne 6, 3) := by decide +kernel
theorem dX12_next_35 : decode cX12_next 35 = .ok (.bipush (-5), 2) := by decide +kernel
theorem dX12_next_37 : decode cX12_next 37 = .ok (.ireturn, 1) := by decide +kernel
theorem dX12_next_38 : decode cX12_next 38 = .ok (.aload_n 0, 1) := by decide +kernel
theorem dX12_next_39 : decode cX12_next 39 = .ok (.iload_n 1, 1) := by decide +kernel
theorem dX12_next_40 : decode cX12_next 40 = .ok (.iload_n 2, 1) := by decide +kernel
theorem dX12_next_41 : decode cX12_next 41 = .ok (.iload 4, 2) := by decide +kernel
theorem dX12_next_43 : decode cX12_next 43 = .ok (.iload_n 3, 1) := by decide +kernel
theorem dX12_next_44 : decode cX12_next 44 = .ok (.invokevirtual 207, 3) := by decide +kernel
theorem dX12_next_47 : decode cX12_next 47 = .ok (.aload_n 0, 1) := by decide +kernel
theorem dX12_next_48 : decode cX12_next 48 = .ok (.getfield 201, 3) := by decide +kernel
theorem dX12_next_51 : decode cX12_next 51 = .ok (.ireturn, 1) := by decide +kernel
theorem dX12_size_0 : decode cX12_size 0 = .ok (.aload_n 0, 1) := by decide +kernel
theorem dX12_size_1 : decode cX12_size 1 = .ok (.iconst 0, 1) := by decide +kernel
theorem dX12_size_2 : decode cX12_size 2 = .ok (.putfield 85, 3) := by decide +kernel
theorem dX12_size_5 : decode cX12_size 5 = .ok (.aload_n 0, 1) := by decide +kernel
theorem dX12_size_6 : decode cX12_size 6 = .ok (.iload_n 1, 1) := by decide +kernel
theorem dX12_size_7 : decode cX12_size 7 = .ok (.iload_n 2, 1) := by decide +kernel
theorem dX12_size_8 : decode cX12_size 8 = .ok (.invokevirtual 143, 3) := by decide +kernel
theorem dX12_size_11 : decode cX12_size 11 = .ok (.ifCond .ne 5, 3) := by decide +kernel
theorem dX12_size_14 : decode cX12_size 14 = .ok (.iconst (-1), 1) := by decide +kernel
theorem dX12_size_15 : decode cX12_size 15 = .ok (.ireturn, 1) := by decide +kernel
theorem dX12_size_16 : decode cX12_size 16 = .ok (.iconst 1, 1) := by decide +kernel
theorem dX12_size_17 : decode cX12_size 17 = .ok (.aload_n 0, 1) := by decide +kernel
theorem dX12_size_18 : decode cX12_size 18 = .ok (.getfield 88, 3) := by decide +kernel
theorem dX12_size_21 : decode cX12_size 21 = .ok (.ishl, 1) := by decide +kernel
theorem dX12_size_22 : decode cX12_size 22 = .ok (.iconst 1, 1) := by decide +kernel
theorem dX12_size_23 : decode cX12_size 23 = .ok (.isub, 1) := by decide +kernel
theorem dX12_size_24 : decode cX12_size 24 = .ok (.istore 4, 2) := by decide +kernel
theorem dX12_size_26 : decode cX12_size 26 = .ok (.aload_n 0, 1) := by decide +kernel
theorem dX12_size_27 : decode cX12_size 27 = .ok (.iload_n 3, 1) := by decide +kernel
theorem dX12_size_28 : decode cX12_size 28 = .ok (.iload 4, 2) := by decide +kernel
theorem dX12_size_30 : decode cX12_size 30 = .ok (.iand, 1) := by decide +kernel
theorem dX12_size_31 : decode cX12_size 31 = .ok (.iconst 1, 1) := by decide +kernel
theorem dX12_size_32 : decode cX12_size 32 = .ok (.iload_n 1, 1) := by decide +kernel
theorem dX12_size_33 : decode cX12_size 33 = .ok (.ishl, 1) := by decide +kernel
theorem dX12_size_34 : decode cX12_size 34 = .ok (.ior, 1) := by decide +kernel
theorem dX12_size_35 : decode cX12_size 35 = .ok (.iconst 1, 1) := by decide +kernel
theorem dX12_size_36 : decode cX12_size 36 = .ok (.iload_n 2, 1) := by decide +kernel
theorem dX12_size_37 : decode cX12_size 37 = .ok (.ishl, 1) := by decide +kernel
theorem dX12_size_38 : decode cX12_size 38 = .ok (.iconst (-1), 1) := by decide +kernel
theorem dX12_size_39 : decode cX12_size 39 = .ok (.ixor, 1) := by decide +kernel
theorem dX12_size_40 : decode cX12_size 40 = .ok (.iand, 1) := by decide +kernel
theorem dX12_size_41 : decode cX12_size 41 = .ok (.invokevirtual 163, 3) := by decide +kernel
theorem dX12_size_44 : decode cX12_size 44 = .ok (.invokestatic 170, 3) := by decide +kernel
theorem dX12_size_47 : decode cX12_size 47 = .ok (.ireturn, 1) := by decide +kernel
theorem dX12_raise_0 : decode cX12_raise 0 = .ok (.aload_n 0, 1) := by decide +kernel
theorem dX12_raise_1 : decode cX12_raise 1 = .ok (.iconst 0, 1) := by decide +kernel
theorem dX12_raise_2 : decode cX12_raise 2 = .ok (.putfield 85, 3) := by decide +kernel
theorem dX12_raise_5 : decode cX12_raise 5 = .ok (.aload_n 0, 1) := by decide +kernel
theorem dX12_raise_6 : decode cX12_raise 6 = .ok (.iload_n 1, 1) := by decide +kernel
theorem dX12_raise_7 : decode cX12_raise 7 = .ok (.iload_n 2, 1) := by decide +kernel
theorem dX12_raise_8 : decode cX12_raise 8 = .ok (.invokevirtual 143, 3) := by decide +kernel
theorem dX12_raise_11 : decode cX12_raise 11 = .ok (.ifCond .eq 11, 3) := by decide +kernel
theorem dX12_raise_14 : decode cX12_raise 14 = .ok (.aload_n 0, 1) := by decide +kernel
theorem dX12_raise_15 : decode cX12_raise 15 = .ok (.iload_n 3, 1) := by decide +kernel
theorem dX12_raise_16 : decode cX12_raise 16 = .ok (.invokevirtual 132, 3) := by decide +kernel
theorem dX12_raise_19 : decode cX12_raise 19 = .ok (.ifCond .ne 5, 3) := by decide +kernel
theorem dX12_raise_22 : decode cX12_raise 22 = .ok (.iconst (-1), 1) := by decide +kernel
theorem dX12_raise_23 : decode cX12_raise 23 = .ok (.ireturn, 1) := by decide +kernel
theorem dX12_raise_24 : decode cX12_raise 24 = .ok (.aload_n 0, 1) := by decide +kernel
theorem dX12_raise_25 : decode cX12_raise 25 = .ok (.getfield 25, 3) := by decide +kernel
theorem dX12_raise_28 : decode cX12_raise 28 = .ok (.iload_n 3, 1) := by decide +kernel
theorem dX12_raise_29 : decode cX12_raise 29 = .ok (.baload, 1) := by decide +kernel
theorem dX12_raise_30 : decode cX12_raise 30 = .ok (.ifCond .eq 6, 3) := by decide +kernel
theorem dX12_raise_33 : decode cX12_raise 33 = .ok (.bipush (-2), 2) := by decide +kernel
theorem dX12_raise_35 : decode cX12_raise 35 = .ok (.ireturn, 1) := by decide +kernel
theorem dX12_raise_36 : decode cX12_raise 36 = .ok (.aload_n 0, 1) := by decide +kernel
theorem dX12_raise_37 : decode cX12_raise 37 = .ok (.iload_n 3, 1) := by decide +kernel
theorem dX12_raise_38 : decode cX12_raise 38 = .ok (.putfield 57, 3) := by decide +kernel
theorem dX12_raise_41 : decode cX12_raise 41 = .ok (.aload_n 0, 1) := by decide +kernel
theorem dX12_raise_42 : decode cX12_raise 42 = .ok (.iload_n 1, 1) := by decide +kernel
theorem dX12_raise_43 : decode cX12_raise 43 = .ok (.iload_n 2, 1) := by decide +kernel
theorem dX12_raise_44 : decode cX12_raise 44 = .ok (.invokevirtual 166, 3) := by decide +kernel
theorem dX12_raise_47 : decode cX12_raise 47 = .ok (.istore 4, 2) := by decide +kernel
theorem dX12_raise_49 : decode cX12_raise 49 = .ok (.aload_n 0, 1) := by decide +kernel
theorem dX12_raise_50 : decode cX12_raise 50 = .ok (.bipush (-9), 2) := by decide +kernel
theorem dX12_raise_52 : decode cX12_raise 52 = .ok (.putfield 57, 3) := by decide +kernel
theorem dX12_raise_55 : decode cX12_raise 55 = .ok (.iload 4, 2) := by decide +kernel
theorem dX12_raise_57 : decode cX12_raise 57 = .ok (.invokestatic 170, 3) := by decide +kernel
theorem dX12_raise_60 : decode cX12_raise 60 = .ok (.ireturn, 1) := by decide +kernel
theorem dX12_isWhole_0 : decode cX12_isWhole 0 = .ok (.aload_n 0, 1) := by decide +kernel
theorem dX12_isWhole_1 : decode cX12_isWhole 1 = .ok (.getfield 88, 3) := by decide +kernel
theorem dX12_isWhole_4 : decode cX12_isWhole 4 = .ok (.iconst 1, 1) := by decide +kernel
theorem dX12_isWhole_5 : decode cX12_isWhole 5 = .ok (.if_icmp .le 7, 3) := by decide +kernel
theorem dX12_isWhole_8 : decode cX12_isWhole 8 = .ok (.iconst 1, 1) := by decide +kernel
theorem dX12_isWhole_9 : decode cX12_isWhole 9 = .ok (.goto 4, 3) := by decide +kernel
theorem dX12_isWhole_12 : decode cX12_isWhole 12 = .ok (.iconst 0, 1) := by decide +kernel
theorem dX12_isWhole_13 : decode cX12_isWhole 13 = .ok (.istore_n 1, 1) := by decide +kernel
theorem dX12_isWhole_14 : decode cX12_isWhole 14 = .ok (.iconst 0, 1) := by decide +kernel
theorem dX12_isWhole_15 : decode cX12_isWhole 15 = .ok (.istore_n 2, 1) := by decide +kernel
theorem dX12_isWhole_16 : decode cX12_isWhole 16 = .ok (.iload_n 2, 1) := by decide +kernel
theorem dX12_isWhole_17 : decode cX12_isWhole 17 = .ok (.aload_n 0, 1) := by decide +kernel
theorem dX12_isWhole_18 : decode cX12_isWhole 18 = .ok (.getfield 95, 3) := by decide +kernel
theorem dX12_isWhole_21 : decode cX12_isWhole 21 = .ok (.if_icmp .ge 46, 3) := by decide +kernel
theorem dX12_isWhole_24 : decode cX12_isWhole 24 = .ok (.iload_n 1, 1) := by decide +kernel
theorem dX12_isWhole_25 : decode cX12_isWhole 25 = .ok (.aload_n 0, 1) := by decide +kernel
theorem dX12_isWhole_26 : decode cX12_isWhole 26 = .ok (.getfield 25, 3) := by decide +kernel
theorem dX12_isWhole_29 : decode cX12_isWhole 29 = .ok (.iload_n 2, 1) := by decide +kernel
theorem dX12_isWhole_30 : decode cX12_isWhole 30 = .ok (.baload, 1) := by decide +kernel
theorem dX12_isWhole_31 : decode cX12_isWhole 31 = .ok (.ifCond .ne 23, 3) := by decide +kernel
theorem dX12_isWhole_34 : decode cX12_isWhole 34 = .ok (.aload_n 0, 1) := by decide +kernel
theorem dX12_isWhole_35 : decode cX12_isWhole 35 = .ok (.getfield 7, 3) := by decide +kernel
theorem dX12_isWhole_38 : decode cX12_isWhole 38 = .ok (.iload_n 2, 1) := by decide +kernel
theorem dX12_isWhole_39 : decode cX12_isWhole 39 = .ok (.iaload, 1) := by decide +kernel
theorem dX12_isWhole_40 : decode cX12_isWhole 40 = .ok (.iconst 1, 1) := by decide +kernel
theorem dX12_isWhole_41 : decode cX12_isWhole 41 = .ok (.if_icmp .eq 17, 3) := by decide +kernel
theorem dX12_isWhole_44 : decode cX12_isWhole 44 = .ok (.aload_n 0, 1) := by decide +kernel
theorem dX12_isWhole_45 : decode cX12_isWhole 45 = .ok (.getfield 7, 3) := by decide +kernel
theorem dX12_isWhole_48 : decode cX12_isWhole 48 = .ok (.iload_n 2, 1) := by decide +kernel
theorem dX12_isWhole_49 : decode cX12_isWhole 49 = .ok (.iaload, 1) := by decide +kernel
theorem dX12_isWhole_50 : decode cX12_isWhole 50 = .ok (.iconst 2, 1) := by decide +kernel
theorem dX12_isWhole_51 : decode cX12_isWhole 51 = .ok (.if_icmp .eq 7, 3) := by decide +kernel
theorem dX12_isWhole_54 : decode cX12_isWhole 54 = .ok (.iconst 1, 1) := by decide +kernel
theorem dX12_isWhole_55 : decode cX12_isWhole 55 = .ok (.goto 4, 3) := by decide +kernel
theorem dX12_isWhole_58 : decode cX12_isWhole 58 = .ok (.iconst 0, 1) := by decide +kernel
theorem dX12_isWhole_59 : decode cX12_isWhole 59 = .ok (.iand, 1) := by decide +kernel
theorem dX12_isWhole_60 : decode cX12_isWhole 60 = .ok (.istore_n 1, 1) := by decide +kernel
theorem dX12_isWhole_61 : decode cX12_isWhole 61 = .ok (.iinc 2 1, 3) := by decide +kernel
theorem dX12_isWhole_64 : decode cX12_isWhole 64 = .ok (.goto (-48), 3) := by decide +kernel
theorem dX12_isWhole_67 : decode cX12_isWhole 67 = .ok (.iload_n 1, 1) := by decide +kernel
theorem dX12_isWhole_68 : decode cX12_isWhole 68 = .ok (.ireturn, 1) := by decide +kernel
theorem dX12_between_0 : decode cX12_between 0 = .ok (.aload_n 0, 1) := by decide +kernel
theorem dX12_between_1 : decode cX12_between 1 = .ok (.iconst 0, 1) := by decide +kernel
theorem dX12_between_2 : decode cX12_between 2 = .ok (.putfield 85, 3) := by decide +kernel
theorem dX12_between_5 : decode cX12_between 5 = .ok (.aload_n 0, 1) := by decide +kernel
theorem dX12_between_6 : decode cX12_between 6 = .ok (.invokevirtual 225, 3) := by decide +kernel
theorem dX12_between_9 : decode cX12_between 9 = .ok (.ifCond .ne 6, 3) := by decide +kernel
theorem dX12_between_12 : decode cX12_between 12 = .ok (.bipush (-2), 2) := by decide +kernel
theorem dX12_between_14 : decode cX12_between 14 = .ok (.ireturn, 1) := by decide +kernel
theorem dX12_between_15 : decode cX12_between 15 = .ok (.aload_n 0, 1) := by decide +kernel
theorem dX12_between_16 : decode cX12_between 16 = .ok (.iload_n 1, 1) := by decide +kernel
theorem dX12_between_17 : decode cX12_between 17 = .ok (.iload_n 2, 1) := by decide +kernel
theorem dX12_between_18 : decode cX12_between 18 = .ok (.invokevirtual 143, 3) := by decide +kernel
theorem dX12_between_21 : decode cX12_between 21 = .ok (.ifCond .eq 12, 3) := by decide +kernel
theorem dX12_between_24 : decode cX12_between 24 = .ok (.aload_n 0, 1) := by decide +kernel
theorem dX12_between_25 : decode cX12_between 25 = .ok (.iload_n 1, 1) := by decide +kernel
theorem dX12_between_26 : decode cX12_between 26 = .ok (.iload_n 2, 1) := by decide +kernel
theorem dX12_between_27 : decode cX12_between 27 = .ok (.invokevirtual 166, 3) := by decide +kernel
theorem dX12_between_30 : decode cX12_between 30 = .ok (.goto 4, 3) := by decide +kernel
theorem dX12_between_33 : decode cX12_between 33 = .ok (.iconst (-1), 1) := by decide +kernel
theorem dX12_between_34 : decode cX12_between 34 = .ok (.ireturn, 1) := by decide +kernel
theorem dX12_leastOf_0 : decode cX12_leastOf 0 = .ok (.ldc 159, 2) := by decide +kernel
theorem dX12_leastOf_2 : decode cX12_leastOf 2 = .ok (.istore_n 1, 1) := by decide +kernel
theorem dX12_leastOf_3 : decode cX12_leastOf 3 = .ok (.iconst 1, 1) := by decide +kernel
theorem dX12_leastOf_4 : decode cX12_leastOf 4 = .ok (.istore_n 2, 1) := by decide +kernel
theorem dX12_leastOf_5 : decode cX12_leastOf 5 = .ok (.iload_n 2, 1) := by decide +kernel
theorem dX12_leastOf_6 : decode cX12_leastOf 6 = .ok (.aload_n 0, 1) := by decide +kernel
theorem dX12_leastOf_7 : decode cX12_leastOf 7 = .ok (.getfield 88, 3) := by decide +kernel
theorem dX12_leastOf_10 : decode cX12_leastOf 10 = .ok (.if_icmp .ge 27, 3) := by decide +kernel
theorem dX12_leastOf_13 : decode cX12_leastOf 13 = .ok (.aload_n 0, 1) := by decide +kernel
theorem dX12_leastOf_14 : decode cX12_leastOf 14 = .ok (.iload_n 2, 1) := by decide +kernel
theorem dX12_leastOf_15 : decode cX12_leastOf 15 = .ok (.iconst 0, 1) := by decide +kernel
theorem dX12_leastOf_16 : decode cX12_leastOf 16 = .ok (.invokevirtual 166, 3) := by decide +kernel
theorem dX12_leastOf_19 : decode cX12_leastOf 19 = .ok (.istore_n 3, 1) := by decide +kernel
theorem dX12_leastOf_20 : decode cX12_leastOf 20 = .ok (.iload_n 3, 1) := by decide +kernel
theorem dX12_leastOf_21 : decode cX12_leastOf 21 = .ok (.iload_n 1, 1) := by decide +kernel
theorem dX12_leastOf_22 : decode cX12_leastOf 22 = .ok (.if_icmp .ge 7, 3) := by decide +kernel
theorem dX12_leastOf_25 : decode cX12_leastOf 25 = .ok (.iload_n 3, 1) := by decide +kernel
theorem dX12_leastOf_26 : decode cX12_leastOf 26 = .ok (.goto 4, 3) := by decide +kernel
theorem dX12_leastOf_29 : decode cX12_leastOf 29 = .ok (.iload_n 1, 1) := by decide +kernel
theorem dX12_leastOf_30 : decode cX12_leastOf 30 = .ok (.istore_n 1, 1) := by decide +kernel
theorem dX12_leastOf_31 : decode cX12_leastOf 31 = .ok (.iinc 2 1, 3) := by decide +kernel
theorem dX12_leastOf_34 : decode cX12_leastOf 34 = .ok (.goto (-29), 3) := by decide +kernel
theorem dX12_leastOf_37 : decode cX12_leastOf 37 = .ok (.iload_n 1, 1) := by decide +kernel
theorem dX12_leastOf_38 : decode cX12_leastOf 38 = .ok (.ireturn, 1) := by decide +kernel
theorem dX12_least_0 : decode cX12_least 0 = .ok (.aload_n 0, 1) := by decide +kernel
theorem dX12_least_1 : decode cX12_least 1 = .ok (.iconst 0, 1) := by decide +kernel
theorem dX12_least_2 : decode cX12_least 2 = .ok (.putfield 85, 3) := by decide +kernel
theorem dX12_least_5 : decode cX12_least 5 = .ok (.aload_n 0, 1) := by decide +kernel
theorem dX12_least_6 : decode cX12_least 6 = .ok (.invokevirtual 225, 3) := by decide +kernel
theorem dX12_least_9 : decode cX12_least 9 = .ok (.ifCond .eq 10, 3) := by decide +kernel
theorem dX12_least_12 : decode cX12_least 12 = .ok (.aload_n 0, 1) := by decide +kernel
theorem dX12_least_13 : decode cX12_least 13 = .ok (.invokevirtual 232, 3) := by decide +kernel
theorem dX12_least_16 : decode cX12_least 16 = .ok (.goto 5, 3) := by decide +kernel
theorem dX12_least_19 : decode cX12_least 19 = .ok (.bipush (-2), 2) := by decide +kernel
theorem dX12_least_21 : decode cX12_least 21 = .ok (.ireturn, 1) := by decide +kernel
theorem dX12_wholeCuts_0 : decode cX12_wholeCuts 0 = .ok (.aload_n 0, 1) := by decide +kernel
theorem dX12_wholeCuts_1 : decode cX12_wholeCuts 1 = .ok (.invokevirtual 232, 3) := by decide +kernel
theorem dX12_wholeCuts_4 : decode cX12_wholeCuts 4 = .ok (.istore_n 2, 1) := by decide +kernel
theorem dX12_wholeCuts_5 : decode cX12_wholeCuts 5 = .ok (.aload_n 0, 1) := by decide +kernel
theorem dX12_wholeCuts_6 : decode cX12_wholeCuts 6 = .ok (.iconst 0, 1) := by decide +kernel
theorem dX12_wholeCuts_7 : decode cX12_wholeCuts 7 = .ok (.putfield 192, 3) := by decide +kernel
theorem dX12_wholeCuts_10 : decode cX12_wholeCuts 10 = .ok (.aload_n 0, 1) := by decide +kernel
theorem dX12_wholeCuts_11 : decode cX12_wholeCuts 11 = .ok (.bipush (-9), 2) := by decide +kernel
theorem dX12_wholeCuts_13 : decode cX12_wholeCuts 13 = .ok (.putfield 201, 3) := by decide +kernel
theorem dX12_wholeCuts_16 : decode cX12_wholeCuts 16 = .ok (.iconst 2, 1) := by decide +kernel
theorem dX12_wholeCuts_17 : decode cX12_wholeCuts 17 = .ok (.istore_n 3, 1) := by decide +kernel
theorem dX12_wholeCuts_18 : decode cX12_wholeCuts 18 = .ok (.iload_n 3, 1) := by decide +kernel
theorem dX12_wholeCuts_19 : decode cX12_wholeCuts 19 = .ok (.iconst 1, 1) := by decide +kernel
theorem dX12_wholeCuts_20 : decode cX12_wholeCuts 20 = .ok (.aload_n 0, 1) := by decide +kernel
theorem dX12_wholeCuts_21 : decode cX12_wholeCuts 21 = .ok (.getfield 88, 3) := by decide +kernel
theorem dX12_wholeCuts_24 : decode cX12_wholeCuts 24 = .ok (.ishl, 1) := by decide +kernel
theorem dX12_wholeCuts_25 : decode cX12_wholeCuts 25 = .ok (.if_icmp .ge 48, 3) := by decide +kernel
theorem dX12_wholeCuts_28 : decode cX12_wholeCuts 28 = .ok (.aload_n 0, 1) := by decide +kernel
theorem dX12_wholeCuts_29 : decode cX12_wholeCuts 29 = .ok (.iload_n 3, 1) := by decide +kernel
theorem dX12_wholeCuts_30 : decode cX12_wholeCuts 30 = .ok (.invokevirtual 163, 3) := by decide +kernel
theorem dX12_wholeCuts_33 : decode cX12_wholeCuts 33 = .ok (.iload_n 2, 1) := by decide +kernel
theorem dX12_wholeCuts_34 : decode cX12_wholeCuts 34 = .ok (.if_icmp .ne 33, 3) := by decide +kernel
theorem dX12_wholeCuts_37 : decode cX12_wholeCuts 37 = .ok (.aload_n 0, 1) := by decide +kernel
theorem dX12_wholeCuts_38 : decode cX12_wholeCuts 38 = .ok (.aload_n 0, 1) := by decide +kernel
theorem dX12_wholeCuts_39 : decode cX12_wholeCuts 39 = .ok (.getfield 192, 3) := by decide +kernel
theorem dX12_wholeCuts_42 : decode cX12_wholeCuts 42 = .ok (.iload_n 1, 1) := by decide +kernel
theorem dX12_wholeCuts_43 : decode cX12_wholeCuts 43 = .ok (.if_icmp .ne 7, 3) := by decide +kernel
theorem dX12_wholeCuts_46 : decode cX12_wholeCuts 46 = .ok (.iload_n 3, 1) := by decide +kernel
theorem dX12_wholeCuts_47 : decode cX12_wholeCuts 47 = .ok (.goto 7, 3) := by decide +kernel
theorem dX12_wholeCuts_50 : decode cX12_wholeCuts 50 = .ok (.aload_n 0, 1) := by decide +kernel
theorem dX12_wholeCuts_51 : decode cX12_wholeCuts 51 = .ok (.getfield 201, 3) := by decide +kernel
theorem dX12_wholeCuts_54 : decode cX12_wholeCuts 54 = .ok (.putfield 201, 3) := by decide +kernel
theorem dX12_wholeCuts_57 : decode cX12_wholeCuts 57 = .ok (.aload_n 0, 1) := by decide +kernel
theorem dX12_wholeCuts_58 : decode cX12_wholeCuts 58 = .ok (.dup, 1) := by decide +kernel
theorem dX12_wholeCuts_59 : decode cX12_wholeCuts 59 = .ok (.getfield 192, 3) := by decide +kernel
theorem dX12_wholeCuts_62 : decode cX12_wholeCuts 62 = .ok (.iconst 1, 1) := by decide +kernel
theorem dX12_wholeCuts_63 : decode cX12_wholeCuts 63 = .ok (.iadd, 1) := by decide +kernel
theorem dX12_wholeCuts_64 : decode cX12_wholeCuts 64 = .ok (.putfield 192, 3) := by decide +kernel
theorem dX12_wholeCuts_67 : decode cX12_wholeCuts 67 = .ok (.iinc 3 2, 3) := by decide +kernel
theorem dX12_wholeCuts_70 : decode cX12_wholeCuts 70 = .ok (.goto (-52), 3) := by decide +kernel
theorem dX12_wholeCuts_73 : decode cX12_wholeCuts 73 = .ok (.return_, 1) := by decide +kernel
theorem dX12_cuts_0 : decode cX12_cuts 0 = .ok (.aload_n 0, 1) := by decide +kernel
theorem dX12_cuts_1 : decode cX12_cuts 1 = .ok (.iconst 0, 1) := by decide +kernel
theorem dX12_cuts_2 : decode cX12_cuts 2 = .ok (.putfield 85, 3) := by decide +kernel
theorem dX12_cuts_5 : decode cX12_cuts 5 = .ok (.aload_n 0, 1) := by decide +kernel
theorem dX12_cuts_6 : decode cX12_cuts 6 = .ok (.invokevirtual 225, 3) := by decide +kernel
theorem dX12_cuts_9 : decode cX12_cuts 9 = .ok (.ifCond .ne 6, 3) := by decide +kernel
theorem dX12_cuts_12 : decode cX12_cuts 12 = .ok (.bipush (-2), 2) := by decide +kernel
theorem dX12_cuts_14 : decode cX12_cuts 14 = .ok (.ireturn, 1) := by decide +kernel
theorem dX12_cuts_15 : decode cX12_cuts 15 = .ok (.aload_n 0, 1) := by decide +kernel
theorem dX12_cuts_16 : decode cX12_cuts 16 = .ok (.iconst 0, 1) := by decide +kernel
theorem dX12_cuts_17 : decode cX12_cuts 17 = .ok (.invokevirtual 236, 3) := by decide +kernel
theorem dX12_cuts_20 : decode cX12_cuts 20 = .ok (.aload_n 0, 1) := by decide +kernel
theorem dX12_cuts_21 : decode cX12_cuts 21 = .ok (.getfield 192, 3) := by decide +kernel
theorem dX12_cuts_24 : decode cX12_cuts 24 = .ok (.ireturn, 1) := by decide +kernel
theorem dX12_cutAt_0 : decode cX12_cutAt 0 = .ok (.aload_n 0, 1) := by decide +kernel
theorem dX12_cutAt_1 : decode cX12_cutAt 1 = .ok (.iconst 0, 1) := by decide +kernel
theorem dX12_cutAt_2 : decode cX12_cutAt 2 = .ok (.putfield 85, 3) := by decide +kernel
theorem dX12_cutAt_5 : decode cX12_cutAt 5 = .ok (.iload_n 1, 1) := by decide +kernel
theorem dX12_cutAt_6 : decode cX12_cutAt 6 = .ok (.ifCond .ge 5, 3) := by decide +kernel
theorem dX12_cutAt_9 : decode cX12_cutAt 9 = .ok (.iconst (-1), 1) := by decide +kernel
theorem dX12_cutAt_10 : decode cX12_cutAt 10 = .ok (.ireturn, 1) := by decide +kernel
theorem dX12_cutAt_11 : decode cX12_cutAt 11 = .ok (.aload_n 0, 1) := by decide +kernel
theorem dX12_cutAt_12 : decode cX12_cutAt 12 = .ok (.invokevirtual 225, 3) := by decide +kernel
theorem dX12_cutAt_15 : decode cX12_cutAt 15 = .ok (.ifCond .ne 6, 3) := by decide +kernel
theorem dX12_cutAt_18 : decode cX12_cutAt 18 = .ok (.bipush (-2), 2) := by decide +kernel
theorem dX12_cutAt_20 : decode cX12_cutAt 20 = .ok (.ireturn, 1) := by decide +kernel
theorem dX12_cutAt_21 : decode cX12_cutAt 21 = .ok (.aload_n 0, 1) := by decide +kernel
theorem dX12_cutAt_22 : decode cX12_cutAt 22 = .ok (.iload_n 1, 1) := by decide +kernel
theorem dX12_cutAt_23 : decode cX12_cutAt 23 = .ok (.invokevirtual 236, 3) := by decide +kernel
theorem dX12_cutAt_26 : decode cX12_cutAt 26 = .ok (.aload_n 0, 1) := by decide +kernel
theorem dX12_cutAt_27 : decode cX12_cutAt 27 = .ok (.getfield 201, 3) := by decide +kernel
theorem dX12_cutAt_30 : decode cX12_cutAt 30 = .ok (.ireturn, 1) := by decide +kernel
theorem dX12_weak_0 : decode cX12_weak 0 = .ok (.aload_n 0, 1) := by decide +kernel
theorem dX12_weak_1 : decode cX12_weak 1 = .ok (.iconst 0, 1) := by decide +kernel
theorem dX12_weak_2 : decode cX12_weak 2 = .ok (.putfield 85, 3) := by decide +kernel
theorem dX12_weak_5 : decode cX12_weak 5 = .ok (.aload_n 0, 1) := by decide +kernel
theorem dX12_weak_6 : decode cX12_weak 6 = .ok (.iload_n 1, 1) := by decide +kernel
theorem dX12_weak_7 : decode cX12_weak 7 = .ok (.invokevirtual 132, 3) := by decide +kernel
theorem dX12_weak_10 : decode cX12_weak 10 = .ok (.ifCond .ne 5, 3) := by decide +kernel
theorem dX12_weak_13 : decode cX12_weak 13 = .ok (.iconst (-1), 1) := by decide +kernel
theorem dX12_weak_14 : decode cX12_weak 14 = .ok (.ireturn, 1) := by decide +kernel
theorem dX12_weak_15 : decode cX12_weak 15 = .ok (.aload_n 0, 1) := by decide +kernel
theorem dX12_weak_16 : decode cX12_weak 16 = .ok (.invokevirtual 225, 3) := by decide +kernel
theorem dX12_weak_19 : decode cX12_weak 19 = .ok (.ifCond .eq 12, 3) := by decide +kernel
theorem dX12_weak_22 : decode cX12_weak 22 = .ok (.aload_n 0, 1) := by decide +kernel
theorem dX12_weak_23 : decode cX12_weak 23 = .ok (.getfield 25, 3) := by decide +kernel
theorem dX12_weak_26 : decode cX12_weak 26 = .ok (.iload_n 1, 1) := by decide +kernel
theorem dX12_weak_27 : decode cX12_weak 27 = .ok (.baload, 1) := by decide +kernel
theorem dX12_weak_28 : decode cX12_weak 28 = .ok (.ifCond .eq 6, 3) := by decide +kernel
theorem dX12_weak_31 : decode cX12_weak 31 = .ok (.bipush (-2), 2) := by decide +kernel
theorem dX12_weak_33 : decode cX12_weak 33 = .ok (.ireturn, 1) := by decide +kernel
theorem dX12_weak_34 : decode cX12_weak 34 = .ok (.aload_n 0, 1) := by decide +kernel
theorem dX12_weak_35 : decode cX12_weak 35 = .ok (.invokevirtual 232, 3) := by decide +kernel
theorem dX12_weak_38 : decode cX12_weak 38 = .ok (.istore_n 2, 1) := by decide +kernel
theorem dX12_weak_39 : decode cX12_weak 39 = .ok (.iconst 2, 1) := by decide +kernel
theorem dX12_weak_40 : decode cX12_weak 40 = .ok (.istore_n 3, 1) := by decide +kernel
theorem dX12_weak_41 : decode cX12_weak 41 = .ok (.iload_n 3, 1) := by decide +kernel
theorem dX12_weak_42 : decode cX12_weak 42 = .ok (.iconst 1, 1) := by decide +kernel
theorem dX12_weak_43 : decode cX12_weak 43 = .ok (.aload_n 0, 1) := by decide +kernel
theorem dX12_weak_44 : decode cX12_weak 44 = .ok (.getfield 88, 3) := by decide +kernel
theorem dX12_weak_47 : decode cX12_weak 47 = .ok (.ishl, 1) := by decide +kernel
theorem dX12_weak_48 : decode cX12_weak 48 = .ok (.if_icmp .ge 43, 3) := by decide +kernel
theorem dX12_weak_51 : decode cX12_weak 51 = .ok (.iload_n 3, 1) := by decide +kernel
theorem dX12_weak_52 : decode cX12_weak 52 = .ok (.aload_n 0, 1) := by decide +kernel
theorem dX12_weak_53 : decode cX12_weak 53 = .ok (.getfield 13, 3) := by decide +kernel
theorem dX12_weak_56 : decode cX12_weak 56 = .ok (.iload_n 1, 1) := by decide +kernel
theorem dX12_weak_57 : decode cX12_weak 57 = .ok (.iaload, 1) := by decide +kernel
theorem dX12_weak_58 : decode cX12_weak 58 = .ok (.ishr, 1) := by decide +kernel
theorem dX12_weak_59 : decode cX12_weak 59 = .ok (.iconst 1, 1) := by decide +kernel
theorem dX12_weak_60 : decode cX12_weak 60 = .ok (.iand, 1) := by decide +kernel
theorem dX12_weak_61 : decode cX12_weak 61 = .ok (.iload_n 3, 1) := by decide +kernel
theorem dX12_weak_62 : decode cX12_weak 62 = .ok (.aload_n 0, 1) := by decide +kernel
theorem dX12_weak_63 : decode cX12_weak 63 = .ok (.getfield 16, 3) := by decide +kernel
theorem dX12_weak_66 : decode cX12_weak 66 = .ok (.iload_n 1, 1) := by decide +kernel
theorem dX12_weak_67 : decode cX12_weak 67 = .ok (.iaload, 1) := by decide +kernel
theorem dX12_weak_68 : decode cX12_weak 68 = .ok (.ishr, 1) := by decide +kernel
theorem dX12_weak_69 : decode cX12_weak 69 = .ok (.iconst 1, 1) := by decide +kernel
theorem dX12_weak_70 : decode cX12_weak 70 = .ok (.iand, 1) := by decide +kernel
theorem dX12_weak_71 : decode cX12_weak 71 = .ok (.if_icmp .eq 14, 3) := by decide +kernel
theorem dX12_weak_74 : decode cX12_weak 74 = .ok (.aload_n 0, 1) := by decide +kernel
theorem dX12_weak_75 : decode cX12_weak 75 = .ok (.iload_n 3, 1) := by decide +kernel
theorem dX12_weak_76 : decode cX12_weak 76 = .ok (.invokevirtual 163, 3) := by decide +kernel
theorem dX12_weak_79 : decode cX12_weak 79 = .ok (.iload_n 2, 1) := by decide +kernel
theorem dX12_weak_80 : decode cX12_weak 80 = .ok (.if_icmp .ne 5, 3) := by decide +kernel
theorem dX12_weak_83 : decode cX12_weak 83 = .ok (.iconst 1, 1) := by decide +kernel
theorem dX12_weak_84 : decode cX12_weak 84 = .ok (.ireturn, 1) := by decide +kernel
theorem dX12_weak_85 : decode cX12_weak 85 = .ok (.iinc 3 2, 3) := by decide +kernel
theorem dX12_weak_88 : decode cX12_weak 88 = .ok (.goto (-47), 3) := by decide +kernel
theorem dX12_weak_91 : decode cX12_weak 91 = .ok (.iconst 0, 1) := by decide +kernel
theorem dX12_weak_92 : decode cX12_weak 92 = .ok (.ireturn, 1) := by decide +kernel
theorem dX12_part_0 : decode cX12_part 0 = .ok (.aload_n 0, 1) := by decide +kernel
theorem dX12_part_1 : decode cX12_part 1 = .ok (.iconst 0, 1) := by decide +kernel
theorem dX12_part_2 : decode cX12_part 2 = .ok (.putfield 85, 3) := by decide +kernel
theorem dX12_part_5 : decode cX12_part 5 = .ok (.iload_n 1, 1) := by decide +kernel
theorem dX12_part_6 : decode cX12_part 6 = .ok (.ifCond .ge 5, 3) := by decide +kernel
theorem dX12_part_9 : decode cX12_part 9 = .ok (.iconst (-1), 1) := by decide +kernel
theorem dX12_part_10 : decode cX12_part 10 = .ok (.ireturn, 1) := by decide +kernel
theorem dX12_part_11 : decode cX12_part 11 = .ok (.aload_n 0, 1) := by decide +kernel
theorem dX12_part_12 : decode cX12_part 12 = .ok (.invokevirtual 225, 3) := by decide +kernel
theorem dX12_part_15 : decode cX12_part 15 = .ok (.ifCond .ne 6, 3) := by decide +kernel
theorem dX12_part_18 : decode cX12_part 18 = .ok (.bipush (-2), 2) := by decide +kernel
theorem dX12_part_20 : decode cX12_part 20 = .ok (.ireturn, 1) := by decide +kernel
theorem dX12_part_21 : decode cX12_part 21 = .ok (.iload_n 2, 1) := by decide +kernel
theorem dX12_part_22 : decode cX12_part 22 = .ok (.iconst (-1), 1) := by decide +kernel
theorem dX12_part_23 : decode cX12_part 23 = .ok (.if_icmp .eq 13, 3) := by decide +kernel
theorem dX12_part_26 : decode cX12_part 26 = .ok (.aload_n 0, 1) := by decide +kernel
theorem dX12_part_27 : decode cX12_part 27 = .ok (.iload_n 2, 1) := by decide +kernel
theorem dX12_part_28 : decode cX12_part 28 = .ok (.invokevirtual 98, 3) := by decide +kernel
theorem dX12_part_31 : decode cX12_part 31 = .ok (.ifCond .ne 5, 3) := by decide +kernel
theorem dX12_part_34 : decode cX12_part 34 = .ok (.iconst (-1), 1) := by decide +kernel
theorem dX12_part_35 : decode cX12_part 35 = .ok (.ireturn, 1) := by decide +kernel
theorem dX12_part_36 : decode cX12_part 36 = .ok (.iconst 0, 1) := by decide +kernel
theorem dX12_part_37 : decode cX12_part 37 = .ok (.istore_n 3, 1) := by decide +kernel
theorem dX12_part_38 : decode cX12_part 38 = .ok (.bipush (-9), 2) := by decide +kernel
theorem dX12_part_40 : decode cX12_part 40 = .ok (.istore 4, 2) := by decide +kernel
theorem dX12_part_42 : decode cX12_part 42 = .ok (.iconst 0, 1) := by decide +kernel
theorem dX12_part_43 : decode cX12_part 43 = .ok (.istore 5, 2) := by decide +kernel
theorem dX12_part_45 : decode cX12_part 45 = .ok (.iload 5, 2) := by decide +kernel
theorem dX12_part_47 : decode cX12_part 47 = .ok (.aload_n 0, 1) := by decide +kernel
theorem dX12_part_48 : decode cX12_part 48 = .ok (.getfield 88, 3) := by decide +kernel
theorem dX12_part_51 : decode cX12_part 51 = .ok (.if_icmp .ge 116, 3) := by decide +kernel
theorem dX12_part_54 : decode cX12_part 54 = .ok (.iconst 1, 1) := by decide +kernel
theorem dX12_part_55 : decode cX12_part 55 = .ok (.istore 6, 2) := by decide +kernel
theorem dX12_part_57 : decode cX12_part 57 = .ok (.iconst 0, 1) := by decide +kernel
theorem dX12_part_58 : decode cX12_part 58 = .ok (.istore 7, 2) := by decide +kernel
theorem dX12_part_60 : decode cX12_part 60 = .ok (.iload 7, 2) := by decide +kernel
theorem dX12_part_62 : decode cX12_part 62 = .ok (.iload 5, 2) := by decide +kernel
theorem dX12_part_64 : decode cX12_part 64 = .ok (.if_icmp .ge 31, 3) := by decide +kernel
theorem dX12_part_67 : decode cX12_part 67 = .ok (.iload 6, 2) := by decide +kernel
theorem dX12_part_69 : decode cX12_part 69 = .ok (.aload_n 0, 1) := by decide +kernel
theorem dX12_part_70 : decode cX12_part 70 = .ok (.iload 5, 2) := by decide +kernel
theorem dX12_part_72 : decode cX12_part 72 = .ok (.iload 7, 2) := by decide +kernel
theorem dX12_part_74 : decode cX12_part 74 = .ok (.invokevirtual 166, 3) := by decide +kernel
theorem dX12_part_77 : decode cX12_part 77 = .ok (.iload_n 1, 1) := by decide +kernel
theorem dX12_part_78 : decode cX12_part 78 = .ok (.if_icmp .ge 7, 3) := by decide +kernel
theorem dX12_part_81 : decode cX12_part 81 = .ok (.iconst 1, 1) := by decide +kernel
theorem dX12_part_82 : decode cX12_part 82 = .ok (.goto 4, 3) := by decide +kernel
theorem dX12_part_85 : decode cX12_part 85 = .ok (.iconst 0, 1) := by decide +kernel
theorem dX12_part_86 : decode cX12_part 86 = .ok (.iand, 1) := by decide +kernel
theorem dX12_part_87 : decode cX12_part 87 = .ok (.istore 6, 2) := by decide +kernel
theorem dX12_part_89 : decode cX12_part 89 = .ok (.iinc 7 1, 3) := by decide +kernel
theorem dX12_part_92 : decode cX12_part 92 = .ok (.goto (-32), 3) := by decide +kernel
theorem dX12_part_95 : decode cX12_part 95 = .ok (.iload 5, 2) := by decide +kernel
theorem dX12_part_97 : decode cX12_part 97 = .ok (.iload_n 2, 1) := by decide +kernel
theorem dX12_part_98 : decode cX12_part 98 = .ok (.if_icmp .eq 18, 3) := by decide +kernel
theorem dX12_part_101 : decode cX12_part 101 = .ok (.iload_n 2, 1) := by decide +kernel
theorem dX12_part_102 : decode cX12_part 102 = .ok (.ifCond .lt 18, 3) := by decide +kernel
theorem dX12_part_105 : decode cX12_part 105 = .ok (.aload_n 0, 1) := by decide +kernel
theorem dX12_part_106 : decode cX12_part 106 = .ok (.iload 5, 2) := by decide +kernel
theorem dX12_part_108 : decode cX12_part 108 = .ok (.iload_n 2, 1) := by decide +kernel
theorem dX12_part_109 : decode cX12_part 109 = .ok (.invokevirtual 166, 3) := by decide +kernel
theorem dX12_part_112 : decode cX12_part 112 = .ok (.iload_n 1, 1) := by decide +kernel
theorem dX12_part_113 : decode cX12_part 113 = .ok (.if_icmp .lt 7, 3) := by decide +kernel
theorem dX12_part_116 : decode cX12_part 116 = .ok (.iconst 1, 1) := by decide +kernel
theorem dX12_part_117 : decode cX12_part 117 = .ok (.goto 4, 3) := by decide +kernel
theorem dX12_part_120 : decode cX12_part 120 = .ok (.iconst 0, 1) := by decide +kernel
theorem dX12_part_121 : decode cX12_part 121 = .ok (.istore 7, 2) := by decide +kernel
theorem dX12_part_123 : decode cX12_part 123 = .ok (.iload 6, 2) := by decide +kernel
theorem dX12_part_125 : decode cX12_part 125 = .ok (.ifCond .eq 19, 3) := by decide +kernel
theorem dX12_part_128 : decode cX12_part 128 = .ok (.iload 7, 2) := by decide +kernel
theorem dX12_part_130 : decode cX12_part 130 = .ok (.ifCond .eq 14, 3) := by decide +kernel
theorem dX12_part_133 : decode cX12_part 133 = .ok (.iload 4, 2) := by decide +kernel
theorem dX12_part_135 : decode cX12_part 135 = .ok (.bipush (-9), 2) := by decide +kernel
theorem dX12_part_137 : decode cX12_part 137 = .ok (.if_icmp .ne 7, 3) := by decide +kernel
theorem dX12_part_140 : decode cX12_part 140 = .ok (.iload_n 3, 1) := by decide +kernel
theorem dX12_part_141 : decode cX12_part 141 = .ok (.goto 5, 3) := by decide +kernel
theorem dX12_part_144 : decode cX12_part 144 = .ok (.iload 4, 2) := by decide +kernel
theorem dX12_part_146 : decode cX12_part 146 = .ok (.istore 4, 2) := by decide +kernel
theorem dX12_part_148 : decode cX12_part 148 = .ok (.iload_n 3, 1) := by decide +kernel
theorem dX12_part_149 : decode cX12_part 149 = .ok (.iload 6, 2) := by decide +kernel
theorem dX12_part_151 : decode cX12_part 151 = .ok (.ifCond .eq 7, 3) := by decide +kernel
theorem dX12_part_154 : decode cX12_part 154 = .ok (.iconst 1, 1) := by decide +kernel
theorem dX12_part_155 : decode cX12_part 155 = .ok (.goto 4, 3) := by decide +kernel
theorem dX12_part_158 : decode cX12_part 158 = .ok (.iconst 0, 1) := by decide +kernel
theorem dX12_part_159 : decode cX12_part 159 = .ok (.iadd, 1) := by decide +kernel
theorem dX12_part_160 : decode cX12_part 160 = .ok (.istore_n 3, 1) := by decide +kernel
theorem dX12_part_161 : decode cX12_part 161 = .ok (.iinc 5 1, 3) := by decide +kernel
theorem dX12_part_164 : decode cX12_part 164 = .ok (.goto (-119), 3) := by decide +kernel
theorem dX12_part_167 : decode cX12_part 167 = .ok (.iload_n 2, 1) := by decide +kernel
theorem dX12_part_168 : decode cX12_part 168 = .ok (.iconst (-1), 1) := by decide +kernel
theorem dX12_part_169 : decode cX12_part 169 = .ok (.if_icmp .ne 7, 3) := by decide +kernel
theorem dX12_part_172 : decode cX12_part 172 = .ok (.iload_n 3, 1) := by decide +kernel
theorem dX12_part_173 : decode cX12_part 173 = .ok (.goto 5, 3) := by decide +kernel
theorem dX12_part_176 : decode cX12_part 176 = .ok (.iload 4, 2) := by decide +kernel
theorem dX12_part_178 : decode cX12_part 178 = .ok (.ireturn, 1) := by decide +kernel
theorem dX12_dense_0 : decode cX12_dense 0 = .ok (.aload_n 0, 1) := by decide +kernel
theorem dX12_dense_1 : decode cX12_dense 1 = .ok (.iconst 0, 1) := by decide +kernel
theorem dX12_dense_2 : decode cX12_dense 2 = .ok (.putfield 85, 3) := by decide +kernel
theorem dX12_dense_5 : decode cX12_dense 5 = .ok (.iload_n 1, 1) := by decide +kernel
theorem dX12_dense_6 : decode cX12_dense 6 = .ok (.i2l, 1) := by decide +kernel
theorem dX12_dense_7 : decode cX12_dense 7 = .ok (.lconst 0, 1) := by decide +kernel
theorem dX12_dense_8 : decode cX12_dense 8 = .ok (.ldc2_w 149, 3) := by decide +kernel
theorem dX12_dense_11 : decode cX12_dense 11 = .ok (.invokestatic 91, 3) := by decide +kernel
theorem dX12_dense_14 : decode cX12_dense 14 = .ok (.ifCond .ne 5, 3) := by decide +kernel
theorem dX12_dense_17 : decode cX12_dense 17 = .ok (.iconst (-1), 1) := by decide +kernel
theorem dX12_dense_18 : decode cX12_dense 18 = .ok (.ireturn, 1) := by decide +kernel
theorem dX12_dense_19 : decode cX12_dense 19 = .ok (.aload_n 0, 1) := by decide +kernel
theorem dX12_dense_20 : decode cX12_dense 20 = .ok (.invokevirtual 225, 3) := by decide +kernel
theorem dX12_dense_23 : decode cX12_dense 23 = .ok (.ifCond .ne 6, 3) := by decide +kernel
theorem dX12_dense_26 : decode cX12_dense 26 = .ok (.bipush (-2), 2) := by decide +kernel
theorem dX12_dense_28 : decode cX12_dense 28 = .ok (.ireturn, 1) := by decide +kernel
theorem dX12_dense_29 : decode cX12_dense 29 = .ok (.iconst 0, 1) := by decide +kernel
theorem dX12_dense_30 : decode cX12_dense 30 = .ok (.istore_n 2, 1) := by decide +kernel
theorem dX12_dense_31 : decode cX12_dense 31 = .ok (.iconst 0, 1) := by decide +kernel
theorem dX12_dense_32 : decode cX12_dense 32 = .ok (.istore_n 3, 1) := by decide +kernel
theorem dX12_dense_33 : decode cX12_dense 33 = .ok (.iconst 1, 1) := by decide +kernel
theorem dX12_dense_34 : decode cX12_dense 34 = .ok (.istore 4, 2) := by decide +kernel
theorem dX12_dense_36 : decode cX12_dense 36 = .ok (.iload 4, 2) := by decide +kernel
theorem dX12_dense_38 : decode cX12_dense 38 = .ok (.iconst 1, 1) := by decide +kernel
theorem dX12_dense_39 : decode cX12_dense 39 = .ok (.aload_n 0, 1) := by decide +kernel
theorem dX12_dense_40 : decode cX12_dense 40 = .ok (.getfield 88, 3) := by decide +kernel
theorem dX12_dense_43 : decode cX12_dense 43 = .ok (.ishl, 1) := by decide +kernel
theorem dX12_dense_44 : decode cX12_dense 44 = .ok (.if_icmp .ge 145, 3) := by decide +kernel
theorem dX12_dense_47 : decode cX12_dense 47 = .ok (.iconst 0, 1) := by decide +kernel
theorem dX12_dense_48 : decode cX12_dense 48 = .ok (.istore 5, 2) := by decide +kernel
theorem dX12_dense_50 : decode cX12_dense 50 = .ok (.iconst 0, 1) := by decide +kernel
theorem dX12_dense_51 : decode cX12_dense 51 = .ok (.istore 6, 2) := by decide +kernel
theorem dX12_dense_53 : decode cX12_dense 53 = .ok (.iload 6, 2) := by decide +kernel
theorem dX12_dense_55 : decode cX12_dense 55 = .ok (.aload_n 0, 1) := by decide +kernel
theorem dX12_dense_56 : decode cX12_dense 56 = .ok (.getfield 95, 3) := by decide +kernel
theorem dX12_dense_59 : decode cX12_dense 59 = .ok (.if_icmp .ge 67, 3) := by decide +kernel
theorem dX12_dense_62 : decode cX12_dense 62 = .ok (.iload 5, 2) := by decide +kernel
theorem dX12_dense_64 : decode cX12_dense 64 = .ok (.aload_n 0, 1) := by decide +kernel
theorem dX12_dense_65 : decode cX12_dense 65 = .ok (.getfield 25, 3) := by decide +kernel
theorem dX12_dense_68 : decode cX12_dense 68 = .ok (.iload 6, 2) := by decide +kernel
theorem dX12_dense_70 : decode cX12_dense 70 = .ok (.baload, 1) := by decide +kernel
theorem dX12_dense_71 : decode cX12_dense 71 = .ok (.ifCond .ne 45, 3) := by decide +kernel
theorem dX12_dense_74 : decode cX12_dense 74 = .ok (.iload 4, 2) := by decide +kernel
theorem dX12_dense_76 : decode cX12_dense 76 = .ok (.aload_n 0, 1) := by decide +kernel
theorem dX12_dense_77 : decode cX12_dense 77 = .ok (.getfield 13, 3) := by decide +kernel
theorem dX12_dense_80 : decode cX12_dense 80 = .ok (.iload 6, 2) := by decide +kernel
theorem dX12_dense_82 : decode cX12_dense 82 = .ok (.iaload, 1) := by decide +kernel
theorem dX12_dense_83 : decode cX12_dense 83 = .ok (.ishr, 1) := by decide +kernel
theorem dX12_dense_84 : decode cX12_dense 84 = .ok (.iconst 1, 1) := by decide +kernel
theorem dX12_dense_85 : decode cX12_dense 85 = .ok (.iand, 1) := by decide +kernel
theorem dX12_dense_86 : decode cX12_dense 86 = .ok (.iconst 1, 1) := by decide +kernel
theorem dX12_dense_87 : decode cX12_dense 87 = .ok (.if_icmp .ne 29, 3) := by decide +kernel
theorem dX12_dense_90 : decode cX12_dense 90 = .ok (.iload 4, 2) := by decide +kernel
theorem dX12_dense_92 : decode cX12_dense 92 = .ok (.aload_n 0, 1) := by decide +kernel
theorem dX12_dense_93 : decode cX12_dense 93 = .ok (.getfield 16, 3) := by decide +kernel
theorem dX12_dense_96 : decode cX12_dense 96 = .ok (.iload 6, 2) := by decide +kernel
theorem dX12_dense_98 : decode cX12_dense 98 = .ok (.iaload, 1) := by decide +kernel
theorem dX12_dense_99 : decode cX12_dense 99 = .ok (.ishr, 1) := by decide +kernel
theorem dX12_dense_100 : decode cX12_dense 100 = .ok (.iconst 1, 1) := by decide +kernel
theorem dX12_dense_101 : decode cX12_dense 101 = .ok (.iand, 1) := by decide +kernel
theorem dX12_dense_102 : decode cX12_dense 102 = .ok (.iconst 1, 1) := by decide +kernel
theorem dX12_dense_103 : decode cX12_dense 103 = .ok (.if_icmp .ne 13, 3) := by decide +kernel
theorem dX12_dense_106 : decode cX12_dense 106 = .ok (.aload_n 0, 1) := by decide +kernel
theorem dX12_dense_107 : decode cX12_dense 107 = .ok (.getfield 19, 3) := by decide +kernel
theorem dX12_dense_110 : decode cX12_dense 110 = .ok (.iload 6, 2) := by decide +kernel
theorem dX12_dense_112 : decode cX12_dense 112 = .ok (.iaload, 1) := by decide +kernel
theorem dX12_dense_113 : decode cX12_dense 113 = .ok (.goto 4, 3) := by decide +kernel
theorem dX12_dense_116 : decode cX12_dense 116 = .ok (.iconst 0, 1) := by decide +kernel
theorem dX12_dense_117 : decode cX12_dense 117 = .ok (.iadd, 1) := by decide +kernel
theorem dX12_dense_118 : decode cX12_dense 118 = .ok (.istore 5, 2) := by decide +kernel
theorem dX12_dense_120 : decode cX12_dense 120 = .ok (.iinc 6 1, 3) := by decide +kernel
theorem dX12_dense_123 : decode cX12_dense 123 = .ok (.goto (-70), 3) := by decide +kernel
theorem dX12_dense_126 : decode cX12_dense 126 = .ok (.iload 5, 2) := by decide +kernel
theorem dX12_dense_128 : decode cX12_dense 128 = .ok (.i2l, 1) := by decide +kernel
theorem dX12_dense_129 : decode cX12_dense 129 = .ok (.iload_n 2, 1) := by decide +kernel
theorem dX12_dense_130 : decode cX12_dense 130 = .ok (.invokestatic 204, 3) := by decide +kernel
theorem dX12_dense_133 : decode cX12_dense 133 = .ok (.i2l, 1) := by decide +kernel
theorem dX12_dense_134 : decode cX12_dense 134 = .ok (.lmul, 1) := by decide +kernel
theorem dX12_dense_135 : decode cX12_dense 135 = .ok (.iload_n 3, 1) := by decide +kernel
theorem dX12_dense_136 : decode cX12_dense 136 = .ok (.i2l, 1) := by decide +kernel
theorem dX12_dense_137 : decode cX12_dense 137 = .ok (.iload 4, 2) := by decide +kernel
theorem dX12_dense_139 : decode cX12_dense 139 = .ok (.invokestatic 204, 3) := by decide +kernel
theorem dX12_dense_142 : decode cX12_dense 142 = .ok (.i2l, 1) := by decide +kernel
theorem dX12_dense_143 : decode cX12_dense 143 = .ok (.lmul, 1) := by decide +kernel
theorem dX12_dense_144 : decode cX12_dense 144 = .ok (.lsub, 1) := by decide +kernel
theorem dX12_dense_145 : decode cX12_dense 145 = .ok (.lstore 6, 2) := by decide +kernel
theorem dX12_dense_147 : decode cX12_dense 147 = .ok (.iload_n 2, 1) := by decide +kernel
theorem dX12_dense_148 : decode cX12_dense 148 = .ok (.ifCond .eq 29, 3) := by decide +kernel
theorem dX12_dense_151 : decode cX12_dense 151 = .ok (.lload 6, 2) := by decide +kernel
theorem dX12_dense_153 : decode cX12_dense 153 = .ok (.lconst 0, 1) := by decide +kernel
theorem dX12_dense_154 : decode cX12_dense 154 = .ok (.lcmp, 1) := by decide +kernel
theorem dX12_dense_155 : decode cX12_dense 155 = .ok (.ifCond .gt 22, 3) := by decide +kernel
theorem dX12_dense_158 : decode cX12_dense 158 = .ok (.lload 6, 2) := by decide +kernel
theorem dX12_dense_160 : decode cX12_dense 160 = .ok (.lconst 0, 1) := by decide +kernel
theorem dX12_dense_161 : decode cX12_dense 161 = .ok (.lcmp, 1) := by decide +kernel
theorem dX12_dense_162 : decode cX12_dense 162 = .ok (.ifCond .ne 21, 3) := by decide +kernel
theorem dX12_dense_165 : decode cX12_dense 165 = .ok (.iload 4, 2) := by decide +kernel
theorem dX12_dense_167 : decode cX12_dense 167 = .ok (.invokestatic 204, 3) := by decide +kernel
theorem dX12_dense_170 : decode cX12_dense 170 = .ok (.iload_n 2, 1) := by decide +kernel
theorem dX12_dense_171 : decode cX12_dense 171 = .ok (.invokestatic 204, 3) := by decide +kernel
theorem dX12_dense_174 : decode cX12_dense 174 = .ok (.if_icmp .le 9, 3) := by decide +kernel
theorem dX12_dense_177 : decode cX12_dense 177 = .ok (.iload 4, 2) := by decide +kernel
theorem dX12_dense_179 : decode cX12_dense 179 = .ok (.istore_n 2, 1) := by decide +kernel
theorem dX12_dense_180 : decode cX12_dense 180 = .ok (.iload 5, 2) := by decide +kernel
theorem dX12_dense_182 : decode cX12_dense 182 = .ok (.istore_n 3, 1) := by decide +kernel
theorem dX12_dense_183 : decode cX12_dense 183 = .ok (.iinc 4 1, 3) := by decide +kernel
theorem dX12_dense_186 : decode cX12_dense 186 = .ok (.goto (-150), 3) := by decide +kernel
theorem dX12_dense_189 : decode cX12_dense 189 = .ok (.iload_n 1, 1) := by decide +kernel
theorem dX12_dense_190 : decode cX12_dense 190 = .ok (.ifCond .ne 7, 3) := by decide +kernel
theorem dX12_dense_193 : decode cX12_dense 193 = .ok (.iload_n 2, 1) := by decide +kernel
theorem dX12_dense_194 : decode cX12_dense 194 = .ok (.goto 16, 3) := by decide +kernel
theorem dX12_dense_197 : decode cX12_dense 197 = .ok (.iload_n 1, 1) := by decide +kernel
theorem dX12_dense_198 : decode cX12_dense 198 = .ok (.iconst 1, 1) := by decide +kernel
theorem dX12_dense_199 : decode cX12_dense 199 = .ok (.if_icmp .ne 7, 3) := by decide +kernel
theorem dX12_dense_202 : decode cX12_dense 202 = .ok (.iload_n 3, 1) := by decide +kernel
theorem dX12_dense_203 : decode cX12_dense 203 = .ok (.goto 7, 3) := by decide +kernel
theorem dX12_dense_206 : decode cX12_dense 206 = .ok (.iload_n 2, 1) := by decide +kernel
theorem dX12_dense_207 : decode cX12_dense 207 = .ok (.invokestatic 204, 3) := by decide +kernel
theorem dX12_dense_210 : decode cX12_dense 210 = .ok (.ireturn, 1) := by decide +kernel
