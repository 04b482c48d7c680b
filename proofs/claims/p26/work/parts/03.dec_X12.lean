theorem dX12_in_0 : decode cX12_in 0 = .ok (.lload_n 0, 1) := by decide +kernel
theorem dX12_in_1 : decode cX12_in 1 = .ok (.lload_n 2, 1) := by decide +kernel
theorem dX12_in_2 : decode cX12_in 2 = .ok (.lcmp, 1) := by decide +kernel
theorem dX12_in_3 : decode cX12_in 3 = .ok (.ifCond .lt 14, 3) := by decide +kernel
theorem dX12_in_6 : decode cX12_in 6 = .ok (.lload_n 0, 1) := by decide +kernel
theorem dX12_in_7 : decode cX12_in 7 = .ok (.lload 4, 2) := by decide +kernel
theorem dX12_in_9 : decode cX12_in 9 = .ok (.lcmp, 1) := by decide +kernel
theorem dX12_in_10 : decode cX12_in 10 = .ok (.ifCond .gt 7, 3) := by decide +kernel
theorem dX12_in_13 : decode cX12_in 13 = .ok (.iconst 1, 1) := by decide +kernel
theorem dX12_in_14 : decode cX12_in 14 = .ok (.goto 4, 3) := by decide +kernel
theorem dX12_in_17 : decode cX12_in 17 = .ok (.iconst 0, 1) := by decide +kernel
theorem dX12_in_18 : decode cX12_in 18 = .ok (.ireturn, 1) := by decide +kernel
theorem dX12_isPlace_0 : decode cX12_isPlace 0 = .ok (.iload_n 1, 1) := by decide +kernel
theorem dX12_isPlace_1 : decode cX12_isPlace 1 = .ok (.i2l, 1) := by decide +kernel
theorem dX12_isPlace_2 : decode cX12_isPlace 2 = .ok (.lconst 0, 1) := by decide +kernel
theorem dX12_isPlace_3 : decode cX12_isPlace 3 = .ok (.aload_n 0, 1) := by decide +kernel
theorem dX12_isPlace_4 : decode cX12_isPlace 4 = .ok (.getfield 88, 3) := by decide +kernel
theorem dX12_isPlace_7 : decode cX12_isPlace 7 = .ok (.iconst 1, 1) := by decide +kernel
theorem dX12_isPlace_8 : decode cX12_isPlace 8 = .ok (.isub, 1) := by decide +kernel
theorem dX12_isPlace_9 : decode cX12_isPlace 9 = .ok (.i2l, 1) := by decide +kernel
theorem dX12_isPlace_10 : decode cX12_isPlace 10 = .ok (.invokestatic 91, 3) := by decide +kernel
theorem dX12_isPlace_13 : decode cX12_isPlace 13 = .ok (.ireturn, 1) := by decide +kernel
theorem dX12_isLine_0 : decode cX12_isLine 0 = .ok (.iload_n 1, 1) := by decide +kernel
theorem dX12_isLine_1 : decode cX12_isLine 1 = .ok (.i2l, 1) := by decide +kernel
theorem dX12_isLine_2 : decode cX12_isLine 2 = .ok (.lconst 0, 1) := by decide +kernel
theorem dX12_isLine_3 : decode cX12_isLine 3 = .ok (.aload_n 0, 1) := by decide +kernel
theorem dX12_isLine_4 : decode cX12_isLine 4 = .ok (.getfield 95, 3) := by decide +kernel
theorem dX12_isLine_7 : decode cX12_isLine 7 = .ok (.iconst 1, 1) := by decide +kernel
theorem dX12_isLine_8 : decode cX12_isLine 8 = .ok (.isub, 1) := by decide +kernel
theorem dX12_isLine_9 : decode cX12_isLine 9 = .ok (.i2l, 1) := by decide +kernel
theorem dX12_isLine_10 : decode cX12_isLine 10 = .ok (.invokestatic 91, 3) := by decide +kernel
theorem dX12_isLine_13 : decode cX12_isLine 13 = .ok (.ireturn, 1) := by decide +kernel
theorem dX12_arePlaces_0 : decode cX12_arePlaces 0 = .ok (.aload_n 0, 1) := by decide +kernel
theorem dX12_arePlaces_1 : decode cX12_arePlaces 1 = .ok (.iload_n 1, 1) := by decide +kernel
theorem dX12_arePlaces_2 : decode cX12_arePlaces 2 = .ok (.invokevirtual 98, 3) := by decide +kernel
theorem dX12_arePlaces_5 : decode cX12_arePlaces 5 = .ok (.ifCond .eq 20, 3) := by decide +kernel
theorem dX12_arePlaces_8 : decode cX12_arePlaces 8 = .ok (.aload_n 0, 1) := by decide +kernel
theorem dX12_arePlaces_9 : decode cX12_arePlaces 9 = .ok (.iload_n 2, 1) := by decide +kernel
theorem dX12_arePlaces_10 : decode cX12_arePlaces 10 = .ok (.invokevirtual 98, 3) := by decide +kernel
theorem dX12_arePlaces_13 : decode cX12_arePlaces 13 = .ok (.ifCond .eq 12, 3) := by decide +kernel
theorem dX12_arePlaces_16 : decode cX12_arePlaces 16 = .ok (.iload_n 1, 1) := by decide +kernel
theorem dX12_arePlaces_17 : decode cX12_arePlaces 17 = .ok (.iload_n 2, 1) := by decide +kernel
theorem dX12_arePlaces_18 : decode cX12_arePlaces 18 = .ok (.if_icmp .eq 7, 3) := by decide +kernel
theorem dX12_arePlaces_21 : decode cX12_arePlaces 21 = .ok (.iconst 1, 1) := by decide +kernel
theorem dX12_arePlaces_22 : decode cX12_arePlaces 22 = .ok (.goto 4, 3) := by decide +kernel
theorem dX12_arePlaces_25 : decode cX12_arePlaces 25 = .ok (.iconst 0, 1) := by decide +kernel
theorem dX12_arePlaces_26 : decode cX12_arePlaces 26 = .ok (.ireturn, 1) := by decide +kernel
theorem dX12_costs_0 : decode cX12_costs 0 = .ok (.aload_n 0, 1) := by decide +kernel
theorem dX12_costs_1 : decode cX12_costs 1 = .ok (.getfield 7, 3) := by decide +kernel
theorem dX12_costs_4 : decode cX12_costs 4 = .ok (.iload_n 1, 1) := by decide +kernel
theorem dX12_costs_5 : decode cX12_costs 5 = .ok (.iaload, 1) := by decide +kernel
theorem dX12_costs_6 : decode cX12_costs 6 = .ok (.iconst 3, 1) := by decide +kernel
theorem dX12_costs_7 : decode cX12_costs 7 = .ok (.if_icmp .ne 12, 3) := by decide +kernel
theorem dX12_costs_10 : decode cX12_costs 10 = .ok (.aload_n 0, 1) := by decide +kernel
theorem dX12_costs_11 : decode cX12_costs 11 = .ok (.getfield 22, 3) := by decide +kernel
theorem dX12_costs_14 : decode cX12_costs 14 = .ok (.iload_n 1, 1) := by decide +kernel
theorem dX12_costs_15 : decode cX12_costs 15 = .ok (.iaload, 1) := by decide +kernel
theorem dX12_costs_16 : decode cX12_costs 16 = .ok (.goto 26, 3) := by decide +kernel
theorem dX12_costs_19 : decode cX12_costs 19 = .ok (.aload_n 0, 1) := by decide +kernel
theorem dX12_costs_20 : decode cX12_costs 20 = .ok (.getfield 7, 3) := by decide +kernel
theorem dX12_costs_23 : decode cX12_costs 23 = .ok (.iload_n 1, 1) := by decide +kernel
theorem dX12_costs_24 : decode cX12_costs 24 = .ok (.iaload, 1) := by decide +kernel
theorem dX12_costs_25 : decode cX12_costs 25 = .ok (.iconst 4, 1) := by decide +kernel
theorem dX12_costs_26 : decode cX12_costs 26 = .ok (.if_icmp .ne 14, 3) := by decide +kernel
theorem dX12_costs_29 : decode cX12_costs 29 = .ok (.aload_n 0, 1) := by decide +kernel
theorem dX12_costs_30 : decode cX12_costs 30 = .ok (.getfield 22, 3) := by decide +kernel
theorem dX12_costs_33 : decode cX12_costs 33 = .ok (.iload_n 1, 1) := by decide +kernel
theorem dX12_costs_34 : decode cX12_costs 34 = .ok (.iaload, 1) := by decide +kernel
theorem dX12_costs_35 : decode cX12_costs 35 = .ok (.iconst 1, 1) := by decide +kernel
theorem dX12_costs_36 : decode cX12_costs 36 = .ok (.iadd, 1) := by decide +kernel
theorem dX12_costs_37 : decode cX12_costs 37 = .ok (.goto 5, 3) := by decide +kernel
theorem dX12_costs_40 : decode cX12_costs 40 = .ok (.bipush (-9), 2) := by decide +kernel
theorem dX12_costs_42 : decode cX12_costs 42 = .ok (.ireturn, 1) := by decide +kernel
theorem dX12_costsTrace_0 : decode cX12_costsTrace 0 = .ok (.aload_n 0, 1) := by decide +kernel
theorem dX12_costsTrace_1 : decode cX12_costsTrace 1 = .ok (.getfield 7, 3) := by decide +kernel
theorem dX12_costsTrace_4 : decode cX12_costsTrace 4 = .ok (.iload_n 1, 1) := by decide +kernel
theorem dX12_costsTrace_5 : decode cX12_costsTrace 5 = .ok (.iaload, 1) := by decide +kernel
theorem dX12_costsTrace_6 : decode cX12_costsTrace 6 = .ok (.iconst 3, 1) := by decide +kernel
theorem dX12_costsTrace_7 : decode cX12_costsTrace 7 = .ok (.if_icmp .ne 9, 3) := by decide +kernel
theorem dX12_costsTrace_10 : decode cX12_costsTrace 10 = .ok (.ldc2_w 128, 3) := by decide +kernel
theorem dX12_costsTrace_13 : decode cX12_costsTrace 13 = .ok (.goto 22, 3) := by decide +kernel
theorem dX12_costsTrace_16 : decode cX12_costsTrace 16 = .ok (.aload_n 0, 1) := by decide +kernel
theorem dX12_costsTrace_17 : decode cX12_costsTrace 17 = .ok (.getfield 7, 3) := by decide +kernel
theorem dX12_costsTrace_20 : decode cX12_costsTrace 20 = .ok (.iload_n 1, 1) := by decide +kernel
theorem dX12_costsTrace_21 : decode cX12_costsTrace 21 = .ok (.iaload, 1) := by decide +kernel
theorem dX12_costsTrace_22 : decode cX12_costsTrace 22 = .ok (.iconst 4, 1) := by decide +kernel
theorem dX12_costsTrace_23 : decode cX12_costsTrace 23 = .ok (.if_icmp .ne 9, 3) := by decide +kernel
theorem dX12_costsTrace_26 : decode cX12_costsTrace 26 = .ok (.ldc2_w 130, 3) := by decide +kernel
theorem dX12_costsTrace_29 : decode cX12_costsTrace 29 = .ok (.goto 6, 3) := by decide +kernel
theorem dX12_costsTrace_32 : decode cX12_costsTrace 32 = .ok (.ldc2_w 110, 3) := by decide +kernel
theorem dX12_costsTrace_35 : decode cX12_costsTrace 35 = .ok (.lreturn, 1) := by decide +kernel
theorem dX12_lets_0 : decode cX12_lets 0 = .ok (.aload_n 0, 1) := by decide +kernel
theorem dX12_lets_1 : decode cX12_lets 1 = .ok (.getfield 7, 3) := by decide +kernel
theorem dX12_lets_4 : decode cX12_lets 4 = .ok (.iload_n 1, 1) := by decide +kernel
theorem dX12_lets_5 : decode cX12_lets 5 = .ok (.iaload, 1) := by decide +kernel
theorem dX12_lets_6 : decode cX12_lets 6 = .ok (.iconst 2, 1) := by decide +kernel
theorem dX12_lets_7 : decode cX12_lets 7 = .ok (.if_icmp .ne 8, 3) := by decide +kernel
theorem dX12_lets_10 : decode cX12_lets 10 = .ok (.bipush (-5), 2) := by decide +kernel
theorem dX12_lets_12 : decode cX12_lets 12 = .ok (.goto 27, 3) := by decide +kernel
theorem dX12_lets_15 : decode cX12_lets 15 = .ok (.aload_n 0, 1) := by decide +kernel
theorem dX12_lets_16 : decode cX12_lets 16 = .ok (.getfield 7, 3) := by decide +kernel
theorem dX12_lets_19 : decode cX12_lets 19 = .ok (.iload_n 1, 1) := by decide +kernel
theorem dX12_lets_20 : decode cX12_lets 20 = .ok (.iaload, 1) := by decide +kernel
theorem dX12_lets_21 : decode cX12_lets 21 = .ok (.iconst 1, 1) := by decide +kernel
theorem dX12_lets_22 : decode cX12_lets 22 = .ok (.if_icmp .ne 11, 3) := by decide +kernel
theorem dX12_lets_25 : decode cX12_lets 25 = .ok (.iload_n 2, 1) := by decide +kernel
theorem dX12_lets_26 : decode cX12_lets 26 = .ok (.ifCond .ne 7, 3) := by decide +kernel
theorem dX12_lets_29 : decode cX12_lets 29 = .ok (.iconst 0, 1) := by decide +kernel
theorem dX12_lets_30 : decode cX12_lets 30 = .ok (.goto 9, 3) := by decide +kernel
theorem dX12_lets_33 : decode cX12_lets 33 = .ok (.aload_n 0, 1) := by decide +kernel
theorem dX12_lets_34 : decode cX12_lets 34 = .ok (.getfield 19, 3) := by decide +kernel
theorem dX12_lets_37 : decode cX12_lets 37 = .ok (.iload_n 1, 1) := by decide +kernel
theorem dX12_lets_38 : decode cX12_lets 38 = .ok (.iaload, 1) := by decide +kernel
theorem dX12_lets_39 : decode cX12_lets 39 = .ok (.ireturn, 1) := by decide +kernel
theorem dX12_room_0 : decode cX12_room 0 = .ok (.aload_n 0, 1) := by decide +kernel
theorem dX12_room_1 : decode cX12_room 1 = .ok (.iload_n 1, 1) := by decide +kernel
theorem dX12_room_2 : decode cX12_room 2 = .ok (.iload_n 2, 1) := by decide +kernel
theorem dX12_room_3 : decode cX12_room 3 = .ok (.invokevirtual 155, 3) := by decide +kernel
theorem dX12_room_6 : decode cX12_room 6 = .ok (.istore_n 3, 1) := by decide +kernel
theorem dX12_room_7 : decode cX12_room 7 = .ok (.iload_n 1, 1) := by decide +kernel
theorem dX12_room_8 : decode cX12_room 8 = .ok (.aload_n 0, 1) := by decide +kernel
theorem dX12_room_9 : decode cX12_room 9 = .ok (.getfield 57, 3) := by decide +kernel
theorem dX12_room_12 : decode cX12_room 12 = .ok (.if_icmp .ne 27, 3) := by decide +kernel
theorem dX12_room_15 : decode cX12_room 15 = .ok (.iload_n 3, 1) := by decide +kernel
theorem dX12_room_16 : decode cX12_room 16 = .ok (.bipush (-5), 2) := by decide +kernel
theorem dX12_room_18 : decode cX12_room 18 = .ok (.if_icmp .eq 21, 3) := by decide +kernel
theorem dX12_room_21 : decode cX12_room 21 = .ok (.aload_n 0, 1) := by decide +kernel
theorem dX12_room_22 : decode cX12_room 22 = .ok (.getfield 7, 3) := by decide +kernel
theorem dX12_room_25 : decode cX12_room 25 = .ok (.iload_n 1, 1) := by decide +kernel
theorem dX12_room_26 : decode cX12_room 26 = .ok (.iaload, 1) := by decide +kernel
theorem dX12_room_27 : decode cX12_room 27 = .ok (.iconst 1, 1) := by decide +kernel
theorem dX12_room_28 : decode cX12_room 28 = .ok (.if_icmp .ne 7, 3) := by decide +kernel
theorem dX12_room_31 : decode cX12_room 31 = .ok (.iload_n 2, 1) := by decide +kernel
theorem dX12_room_32 : decode cX12_room 32 = .ok (.ifCond .eq 7, 3) := by decide +kernel
theorem dX12_room_35 : decode cX12_room 35 = .ok (.iconst 1, 1) := by decide +kernel
theorem dX12_room_36 : decode cX12_room 36 = .ok (.goto 4, 3) := by decide +kernel
theorem dX12_room_39 : decode cX12_room 39 = .ok (.iconst 0, 1) := by decide +kernel
theorem dX12_room_40 : decode cX12_room 40 = .ok (.istore 4, 2) := by decide +kernel
theorem dX12_room_42 : decode cX12_room 42 = .ok (.iload_n 3, 1) := by decide +kernel
theorem dX12_room_43 : decode cX12_room 43 = .ok (.bipush (-5), 2) := by decide +kernel
theorem dX12_room_45 : decode cX12_room 45 = .ok (.if_icmp .ne 8, 3) := by decide +kernel
theorem dX12_room_48 : decode cX12_room 48 = .ok (.ldc 159, 2) := by decide +kernel
theorem dX12_room_50 : decode cX12_room 50 = .ok (.goto 15, 3) := by decide +kernel
theorem dX12_room_53 : decode cX12_room 53 = .ok (.iload 4, 2) := by decide +kernel
theorem dX12_room_55 : decode cX12_room 55 = .ok (.ifCond .eq 9, 3) := by decide +kernel
theorem dX12_room_58 : decode cX12_room 58 = .ok (.iload_n 3, 1) := by decide +kernel
theorem dX12_room_59 : decode cX12_room 59 = .ok (.iconst 1, 1) := by decide +kernel
theorem dX12_room_60 : decode cX12_room 60 = .ok (.iadd, 1) := by decide +kernel
theorem dX12_room_61 : decode cX12_room 61 = .ok (.goto 4, 3) := by decide +kernel
theorem dX12_room_64 : decode cX12_room 64 = .ok (.iload_n 3, 1) := by decide +kernel
theorem dX12_room_65 : decode cX12_room 65 = .ok (.ireturn, 1) := by decide +kernel
theorem dX12_sizeOf_0 : decode cX12_sizeOf 0 = .ok (.iconst 0, 1) := by decide +kernel
theorem dX12_sizeOf_1 : decode cX12_sizeOf 1 = .ok (.istore_n 2, 1) := by decide +kernel
theorem dX12_sizeOf_2 : decode cX12_sizeOf 2 = .ok (.iconst 0, 1) := by decide +kernel
theorem dX12_sizeOf_3 : decode cX12_sizeOf 3 = .ok (.istore_n 3, 1) := by decide +kernel
theorem dX12_sizeOf_4 : decode cX12_sizeOf 4 = .ok (.iload_n 3, 1) := by decide +kernel
theorem dX12_sizeOf_5 : decode cX12_sizeOf 5 = .ok (.aload_n 0, 1) := by decide +kernel
theorem dX12_sizeOf_6 : decode cX12_sizeOf 6 = .ok (.getfield 95, 3) := by decide +kernel
theorem dX12_sizeOf_9 : decode cX12_sizeOf 9 = .ok (.if_icmp .ge 102, 3) := by decide +kernel
theorem dX12_sizeOf_12 : decode cX12_sizeOf 12 = .ok (.aload_n 0, 1) := by decide +kernel
theorem dX12_sizeOf_13 : decode cX12_sizeOf 13 = .ok (.getfield 25, 3) := by decide +kernel
theorem dX12_sizeOf_16 : decode cX12_sizeOf 16 = .ok (.iload_n 3, 1) := by decide +kernel
theorem dX12_sizeOf_17 : decode cX12_sizeOf 17 = .ok (.baload, 1) := by decide +kernel
theorem dX12_sizeOf_18 : decode cX12_sizeOf 18 = .ok (.ifCond .ne 87, 3) := by decide +kernel
theorem dX12_sizeOf_21 : decode cX12_sizeOf 21 = .ok (.iload_n 1, 1) := by decide +kernel
theorem dX12_sizeOf_22 : decode cX12_sizeOf 22 = .ok (.aload_n 0, 1) := by decide +kernel
theorem dX12_sizeOf_23 : decode cX12_sizeOf 23 = .ok (.getfield 13, 3) := by decide +kernel
theorem dX12_sizeOf_26 : decode cX12_sizeOf 26 = .ok (.iload_n 3, 1) := by decide +kernel
theorem dX12_sizeOf_27 : decode cX12_sizeOf 27 = .ok (.iaload, 1) := by decide +kernel
theorem dX12_sizeOf_28 : decode cX12_sizeOf 28 = .ok (.ishr, 1) := by decide +kernel
theorem dX12_sizeOf_29 : decode cX12_sizeOf 29 = .ok (.iconst 1, 1) := by decide +kernel
theorem dX12_sizeOf_30 : decode cX12_sizeOf 30 = .ok (.iand, 1) := by decide +kernel
theorem dX12_sizeOf_31 : decode cX12_sizeOf 31 = .ok (.iconst 1, 1) := by decide +kernel
theorem dX12_sizeOf_32 : decode cX12_sizeOf 32 = .ok (.if_icmp .ne 7, 3) := by decide +kernel
theorem dX12_sizeOf_35 : decode cX12_sizeOf 35 = .ok (.iconst 1, 1) := by decide +kernel
theorem dX12_sizeOf_36 : decode cX12_sizeOf 36 = .ok (.goto 4, 3) := by decide +kernel
theorem dX12_sizeOf_39 : decode cX12_sizeOf 39 = .ok (.iconst 0, 1) := by decide +kernel
theorem dX12_sizeOf_40 : decode cX12_sizeOf 40 = .ok (.istore 4, 2) := by decide +kernel
theorem dX12_sizeOf_42 : decode cX12_sizeOf 42 = .ok (.iload_n 1, 1) := by decide +kernel
theorem dX12_sizeOf_43 : decode cX12_sizeOf 43 = .ok (.aload_n 0, 1) := by decide +kernel
theorem dX12_sizeOf_44 : decode cX12_sizeOf 44 = .ok (.getfield 16, 3) := by decide +kernel
theorem dX12_sizeOf_47 : decode cX12_sizeOf 47 = .ok (.iload_n 3, 1) := by decide +kernel
theorem dX12_sizeOf_48 : decode cX12_sizeOf 48 = .ok (.iaload, 1) := by decide +kernel
theorem dX12_sizeOf_49 : decode cX12_sizeOf 49 = .ok (.ishr, 1) := by decide +kernel
theorem dX12_sizeOf_50 : decode cX12_sizeOf 50 = .ok (.iconst 1, 1) := by decide +kernel
theorem dX12_sizeOf_51 : decode cX12_sizeOf 51 = .ok (.iand, 1) := by decide +kernel
theorem dX12_sizeOf_52 : decode cX12_sizeOf 52 = .ok (.iconst 1, 1) := by decide +kernel
theorem dX12_sizeOf_53 : decode cX12_sizeOf 53 = .ok (.if_icmp .ne 7, 3) := by decide +kernel
theorem dX12_sizeOf_56 : decode cX12_sizeOf 56 = .ok (.iconst 1, 1) := by decide +kernel
theorem dX12_sizeOf_57 : decode cX12_sizeOf 57 = .ok (.goto 4, 3) := by decide +kernel
theorem dX12_sizeOf_60 : decode cX12_sizeOf 60 = .ok (.iconst 0, 1) := by decide +kernel
theorem dX12_sizeOf_61 : decode cX12_sizeOf 61 = .ok (.istore 5, 2) := by decide +kernel
theorem dX12_sizeOf_63 : decode cX12_sizeOf 63 = .ok (.iload_n 2, 1) := by decide +kernel
theorem dX12_sizeOf_64 : decode cX12_sizeOf 64 = .ok (.iload 4, 2) := by decide +kernel
theorem dX12_sizeOf_66 : decode cX12_sizeOf 66 = .ok (.ifCond .eq 17, 3) := by decide +kernel
theorem dX12_sizeOf_69 : decode cX12_sizeOf 69 = .ok (.iload 5, 2) := by decide +kernel
theorem dX12_sizeOf_71 : decode cX12_sizeOf 71 = .ok (.ifCond .ne 12, 3) := by decide +kernel
theorem dX12_sizeOf_74 : decode cX12_sizeOf 74 = .ok (.aload_n 0, 1) := by decide +kernel
theorem dX12_sizeOf_75 : decode cX12_sizeOf 75 = .ok (.iload_n 3, 1) := by decide +kernel
theorem dX12_sizeOf_76 : decode cX12_sizeOf 76 = .ok (.iconst 1, 1) := by decide +kernel
theorem dX12_sizeOf_77 : decode cX12_sizeOf 77 = .ok (.invokevirtual 160, 3) := by decide +kernel
theorem dX12_sizeOf_80 : decode cX12_sizeOf 80 = .ok (.goto 23, 3) := by decide +kernel
theorem dX12_sizeOf_83 : decode cX12_sizeOf 83 = .ok (.iload 5, 2) := by decide +kernel
theorem dX12_sizeOf_85 : decode cX12_sizeOf 85 = .ok (.ifCond .eq 17, 3) := by decide +kernel
theorem dX12_sizeOf_88 : decode cX12_sizeOf 88 = .ok (.iload 4, 2) := by decide +kernel
theorem dX12_sizeOf_90 : decode cX12_sizeOf 90 = .ok (.ifCond .ne 12, 3) := by decide +kernel
theorem dX12_sizeOf_93 : decode cX12_sizeOf 93 = .ok (.aload_n 0, 1) := by decide +kernel
theorem dX12_sizeOf_94 : decode cX12_sizeOf 94 = .ok (.iload_n 3, 1) := by decide +kernel
theorem dX12_sizeOf_95 : decode cX12_sizeOf 95 = .ok (.iconst 0, 1) := by decide +kernel
theorem dX12_sizeOf_96 : decode cX12_sizeOf 96 = .ok (.invokevirtual 160, 3) := by decide +kernel
theorem dX12_sizeOf_99 : decode cX12_sizeOf 99 = .ok (.goto 4, 3) := by decide +kernel
theorem dX12_sizeOf_102 : decode cX12_sizeOf 102 = .ok (.iconst 0, 1) := by decide +kernel
theorem dX12_sizeOf_103 : decode cX12_sizeOf 103 = .ok (.iadd, 1) := by decide +kernel
theorem dX12_sizeOf_104 : decode cX12_sizeOf 104 = .ok (.istore_n 2, 1) := by decide +kernel
theorem dX12_sizeOf_105 : decode cX12_sizeOf 105 = .ok (.iinc 3 1, 3) := by decide +kernel
theorem dX12_sizeOf_108 : decode cX12_sizeOf 108 = .ok (.goto (-104), 3) := by decide +kernel
theorem dX12_sizeOf_111 : decode cX12_sizeOf 111 = .ok (.iload_n 2, 1) := by decide +kernel
theorem dX12_sizeOf_112 : decode cX12_sizeOf 112 = .ok (.ldc 159, 2) := by decide +kernel
theorem dX12_sizeOf_114 : decode cX12_sizeOf 114 = .ok (.if_icmp .ge 7, 3) := by decide +kernel
theorem dX12_sizeOf_117 : decode cX12_sizeOf 117 = .ok (.iload_n 2, 1) := by decide +kernel
theorem dX12_sizeOf_118 : decode cX12_sizeOf 118 = .ok (.goto 5, 3) := by decide +kernel
theorem dX12_sizeOf_121 : decode cX12_sizeOf 121 = .ok (.ldc 159, 2) := by decide +kernel
theorem dX12_sizeOf_123 : decode cX12_sizeOf 123 = .ok (.ireturn, 1) := by decide +kernel
theorem dX12_mostOf_0 : decode cX12_mostOf 0 = .ok (.ldc 159, 2) := by decide +kernel
theorem dX12_mostOf_2 : decode cX12_mostOf 2 = .ok (.istore_n 3, 1) := by decide +kernel
theorem dX12_mostOf_3 : decode cX12_mostOf 3 = .ok (.iconst 0, 1) := by decide +kernel
theorem dX12_mostOf_4 : decode cX12_mostOf 4 = .ok (.istore 4, 2) := by decide +kernel
theorem dX12_mostOf_6 : decode cX12_mostOf 6 = .ok (.iload 4, 2) := by decide +kernel
theorem dX12_mostOf_8 : decode cX12_mostOf 8 = .ok (.iconst 1, 1) := by decide +kernel
theorem dX12_mostOf_9 : decode cX12_mostOf 9 = .ok (.aload_n 0, 1) := by decide +kernel
theorem dX12_mostOf_10 : decode cX12_mostOf 10 = .ok (.getfield 88, 3) := by decide +kernel
theorem dX12_mostOf_13 : decode cX12_mostOf 13 = .ok (.ishl, 1) := by decide +kernel
theorem dX12_mostOf_14 : decode cX12_mostOf 14 = .ok (.if_icmp .ge 49, 3) := by decide +kernel
theorem dX12_mostOf_17 : decode cX12_mostOf 17 = .ok (.iload 4, 2) := by decide +kernel
theorem dX12_mostOf_19 : decode cX12_mostOf 19 = .ok (.iload_n 1, 1) := by decide +kernel
theorem dX12_mostOf_20 : decode cX12_mostOf 20 = .ok (.ishr, 1) := by decide +kernel
theorem dX12_mostOf_21 : decode cX12_mostOf 21 = .ok (.iconst 1, 1) := by decide +kernel
theorem dX12_mostOf_22 : decode cX12_mostOf 22 = .ok (.iand, 1) := by decide +kernel
theorem dX12_mostOf_23 : decode cX12_mostOf 23 = .ok (.iconst 1, 1) := by decide +kernel
theorem dX12_mostOf_24 : decode cX12_mostOf 24 = .ok (.if_icmp .ne 33, 3) := by decide +kernel
theorem dX12_mostOf_27 : decode cX12_mostOf 27 = .ok (.iload 4, 2) := by decide +kernel
theorem dX12_mostOf_29 : decode cX12_mostOf 29 = .ok (.iload_n 2, 1) := by decide +kernel
theorem dX12_mostOf_30 : decode cX12_mostOf 30 = .ok (.ishr, 1) := by decide +kernel
theorem dX12_mostOf_31 : decode cX12_mostOf 31 = .ok (.iconst 1, 1) := by decide +kernel
theorem dX12_mostOf_32 : decode cX12_mostOf 32 = .ok (.iand, 1) := by decide +kernel
theorem dX12_mostOf_33 : decode cX12_mostOf 33 = .ok (.ifCond .ne 24, 3) := by decide +kernel
theorem dX12_mostOf_36 : decode cX12_mostOf 36 = .ok (.aload_n 0, 1) := by decide +kernel
theorem dX12_mostOf_37 : decode cX12_mostOf 37 = .ok (.iload 4, 2) := by decide +kernel
theorem dX12_mostOf_39 : decode cX12_mostOf 39 = .ok (.invokevirtual 163, 3) := by decide +kernel
theorem dX12_mostOf_42 : decode cX12_mostOf 42 = .ok (.istore 5, 2) := by decide +kernel
theorem dX12_mostOf_44 : decode cX12_mostOf 44 = .ok (.iload 5, 2) := by decide +kernel
theorem dX12_mostOf_46 : decode cX12_mostOf 46 = .ok (.iload_n 3, 1) := by decide +kernel
theorem dX12_mostOf_47 : decode cX12_mostOf 47 = .ok (.if_icmp .ge 8, 3) := by decide +kernel
theorem dX12_mostOf_50 : decode cX12_mostOf 50 = .ok (.iload 5, 2) := by decide +kernel
theorem dX12_mostOf_52 : decode cX12_mostOf 52 = .ok (.goto 4, 3) := by decide +kernel
theorem dX12_mostOf_55 : decode cX12_mostOf 55 = .ok (.iload_n 3, 1) := by decide +kernel
theorem dX12_mostOf_56 : decode cX12_mostOf 56 = .ok (.istore_n 3, 1) := by decide +kernel
theorem dX12_mostOf_57 : decode cX12_mostOf 57 = .ok (.iinc 4 1, 3) := by decide +kernel
theorem dX12_mostOf_60 : decode cX12_mostOf 60 = .ok (.goto (-54), 3) := by decide +kernel
theorem dX12_mostOf_63 : decode cX12_mostOf 63 = .ok (.iload_n 3, 1) := by decide +kernel
theorem dX12_mostOf_64 : decode cX12_mostOf 64 = .ok (.ireturn, 1) := by decide +kernel
theorem dX12_isMet_0 : decode cX12_isMet 0 = .ok (.iconst 0, 1) := by decide +kernel
theorem dX12_isMet_1 : decode cX12_isMet 1 = .ok (.istore_n 3, 1) := by decide +kernel
theorem dX12_isMet_2 : decode cX12_isMet 2 = .ok (.iconst 0, 1) := by decide +kernel
theorem dX12_isMet_3 : decode cX12_isMet 3 = .ok (.istore 4, 2) := by decide +kernel
theorem dX12_isMet_5 : decode cX12_isMet 5 = .ok (.iload 4, 2) := by decide +kernel
theorem dX12_isMet_7 : decode cX12_isMet 7 = .ok (.iload_n 2, 1) := by decide +kernel
theorem dX12_isMet_8 : decode cX12_isMet 8 = .ok (.if_icmp .ge 28, 3) := by decide +kernel
theorem dX12_isMet_11 : decode cX12_isMet 11 = .ok (.iload_n 3, 1) := by decide +kernel
theorem dX12_isMet_12 : decode cX12_isMet 12 = .ok (.aload_n 0, 1) := by decide +kernel
theorem dX12_isMet_13 : decode cX12_isMet 13 = .ok (.getfield 64, 3) := by decide +kernel
theorem dX12_isMet_16 : decode cX12_isMet 16 = .ok (.iload 4, 2) := by decide +kernel
theorem dX12_isMet_18 : decode cX12_isMet 18 = .ok (.iaload, 1) := by decide +kernel
theorem dX12_isMet_19 : decode cX12_isMet 19 = .ok (.iload_n 1, 1) := by decide +kernel
theorem dX12_isMet_20 : decode cX12_isMet 20 = .ok (.if_icmp .ne 7, 3) := by decide +kernel
theorem dX12_isMet_23 : decode cX12_isMet 23 = .ok (.iconst 1, 1) := by decide +kernel
theorem dX12_isMet_24 : decode cX12_isMet 24 = .ok (.goto 4, 3) := by decide +kernel
theorem dX12_isMet_27 : decode cX12_isMet 27 = .ok (.iconst 0, 1) := by decide +kernel
theorem dX12_isMet_28 : decode cX12_isMet 28 = .ok (.ior, 1) := by decide +kernel
theorem dX12_isMet_29 : decode cX12_isMet 29 = .ok (.istore_n 3, 1) := by decide +kernel
theorem dX12_isMet_30 : decode cX12_isMet 30 = .ok (.iinc 4 1, 3) := by decide +kernel
theorem dX12_isMet_33 : decode cX12_isMet 33 = .ok (.goto (-28), 3) := by decide +kernel
theorem dX12_isMet_36 : decode cX12_isMet 36 = .ok (.iload_n 3, 1) := by decide +kernel
theorem dX12_isMet_37 : decode cX12_isMet 37 = .ok (.ireturn, 1) := by decide +kernel
theorem dX12_bitsOf_0 : decode cX12_bitsOf 0 = .ok (.iconst 0, 1) := by decide +kernel
theorem dX12_bitsOf_1 : decode cX12_bitsOf 1 = .ok (.istore_n 1, 1) := by decide +kernel
theorem dX12_bitsOf_2 : decode cX12_bitsOf 2 = .ok (.iconst 0, 1) := by decide +kernel
theorem dX12_bitsOf_3 : decode cX12_bitsOf 3 = .ok (.istore_n 2, 1) := by decide +kernel
theorem dX12_bitsOf_4 : decode cX12_bitsOf 4 = .ok (.iload_n 2, 1) := by decide +kernel
theorem dX12_bitsOf_5 : decode cX12_bitsOf 5 = .ok (.bipush 12, 2) := by decide +kernel
theorem dX12_bitsOf_7 : decode cX12_bitsOf 7 = .ok (.if_icmp .ge 17, 3) := by decide +kernel
theorem dX12_bitsOf_10 : decode cX12_bitsOf 10 = .ok (.iload_n 1, 1) := by decide +kernel
theorem dX12_bitsOf_11 : decode cX12_bitsOf 11 = .ok (.iload_n 0, 1) := by decide +kernel
theorem dX12_bitsOf_12 : decode cX12_bitsOf 12 = .ok (.iload_n 2, 1) := by decide +kernel
theorem dX12_bitsOf_13 : decode cX12_bitsOf 13 = .ok (.ishr, 1) := by decide +kernel
theorem dX12_bitsOf_14 : decode cX12_bitsOf 14 = .ok (.iconst 1, 1) := by decide +kernel
theorem dX12_bitsOf_15 : decode cX12_bitsOf 15 = .ok (.iand, 1) := by decide +kernel
theorem dX12_bitsOf_16 : decode cX12_bitsOf 16 = .ok (.iadd, 1) := by decide +kernel
theorem dX12_bitsOf_17 : decode cX12_bitsOf 17 = .ok (.istore_n 1, 1) := by decide +kernel
theorem dX12_bitsOf_18 : decode cX12_bitsOf 18 = .ok (.iinc 2 1, 3) := by decide +kernel
theorem dX12_bitsOf_21 : decode cX12_bitsOf 21 = .ok (.goto (-17), 3) := by decide +kernel
theorem dX12_bitsOf_24 : decode cX12_bitsOf 24 = .ok (.iload_n 1, 1) := by decide +kernel
theorem dX12_bitsOf_25 : decode cX12_bitsOf 25 = .ok (.ireturn, 1) := by decide +kernel
theorem dX12_isWhole_0 : decode cX12_isWhole 0 = .ok (.aload_n 0, 1) := by decide +kernel
theorem dX12_isWhole_1 : decode cX12_isWhole 1 = .ok (.getfield 88, 3) := by decide +kernel
theorem dX12_isWhole_4 : decode cX12_isWhole 4 = .ok (.iconst 1, 1) := by decide +kernel
theorem dX12_isWhole_5 : decode cX12_isWhole 5 = .ok (.if_icmp .le 7, 3) := by decide +kernel
theorem dX12_isWhole_8 : decode cX12_isWhole 8 = .ok (.iconst 1, 1) := by decide +kernel
theorem dX12_isWhole_9 : decode cX12_isWhole 9 = .ok (.goto 4, 3) := by decide +kernel
theorem dX12_isWhole_12 : decode cX12_isWhole 12 = .ok (.iconst 0, 1) := by decide +kernel
theorem dX12_isWhole_13 : decode cX12_isWhole 13 = .ok (.istore_n 1, 1) := by decide +kernel
theorem dX12_isWhole_14 : decode cX12_isWhole 14 = .ok (.iconst 0, 1) := by decide +kernel
theorem dX12_isWhole_15 : decode cX12_isWhole 15 = .ok (.istore_n 2, 1) := by decide +kernel
theorem dX12_isWhole_16 : decode cX12_isWhole 16 = .ok (.iload_n 2, 1) := by decide +kernel
theorem dX12_isWhole_17 : decode cX12_isWhole 17 = .ok (.aload_n 0, 1) := by decide +kernel
theorem dX12_isWhole_18 : decode cX12_isWhole 18 = .ok (.getfield 95, 3) := by decide +kernel
theorem dX12_isWhole_21 : decode cX12_isWhole 21 = .ok (.if_icmp .ge 46, 3) := by decide +kernel
theorem dX12_isWhole_24 : decode cX12_isWhole 24 = .ok (.iload_n 1, 1) := by decide +kernel
theorem dX12_isWhole_25 : decode cX12_isWhole 25 = .ok (.aload_n 0, 1) := by decide +kernel
theorem dX12_isWhole_26 : decode cX12_isWhole 26 = .ok (.getfield 25, 3) := by decide +kernel
theorem dX12_isWhole_29 : decode cX12_isWhole 29 = .ok (.iload_n 2, 1) := by decide +kernel
theorem dX12_isWhole_30 : decode cX12_isWhole 30 = .ok (.baload, 1) := by decide +kernel
theorem dX12_isWhole_31 : decode cX12_isWhole 31 = .ok (.ifCond .ne 23, 3) := by decide +kernel
theorem dX12_isWhole_34 : decode cX12_isWhole 34 = .ok (.aload_n 0, 1) := by decide +kernel
theorem dX12_isWhole_35 : decode cX12_isWhole 35 = .ok (.getfield 7, 3) := by decide +kernel
theorem dX12_isWhole_38 : decode cX12_isWhole 38 = .ok (.iload_n 2, 1) := by decide +kernel
theorem dX12_isWhole_39 : decode cX12_isWhole 39 = .ok (.iaload, 1) := by decide +kernel
theorem dX12_isWhole_40 : decode cX12_isWhole 40 = .ok (.iconst 1, 1) := by decide +kernel
theorem dX12_isWhole_41 : decode cX12_isWhole 41 = .ok (.if_icmp .eq 17, 3) := by decide +kernel
theorem dX12_isWhole_44 : decode cX12_isWhole 44 = .ok (.aload_n 0, 1) := by decide +kernel
theorem dX12_isWhole_45 : decode cX12_isWhole 45 = .ok (.getfield 7, 3) := by decide +kernel
theorem dX12_isWhole_48 : decode cX12_isWhole 48 = .ok (.iload_n 2, 1) := by decide +kernel
theorem dX12_isWhole_49 : decode cX12_isWhole 49 = .ok (.iaload, 1) := by decide +kernel
theorem dX12_isWhole_50 : decode cX12_isWhole 50 = .ok (.iconst 2, 1) := by decide +kernel
theorem dX12_isWhole_51 : decode cX12_isWhole 51 = .ok (.if_icmp .eq 7, 3) := by decide +kernel
theorem dX12_isWhole_54 : decode cX12_isWhole 54 = .ok (.iconst 1, 1) := by decide +kernel
theorem dX12_isWhole_55 : decode cX12_isWhole 55 = .ok (.goto 4, 3) := by decide +kernel
theorem dX12_isWhole_58 : decode cX12_isWhole 58 = .ok (.iconst 0, 1) := by decide +kernel
theorem dX12_isWhole_59 : decode cX12_isWhole 59 = .ok (.iand, 1) := by decide +kernel
theorem dX12_isWhole_60 : decode cX12_isWhole 60 = .ok (.istore_n 1, 1) := by decide +kernel
theorem dX12_isWhole_61 : decode cX12_isWhole 61 = .ok (.iinc 2 1, 3) := by decide +kernel
theorem dX12_isWhole_64 : decode cX12_isWhole 64 = .ok (.goto (-48), 3) := by decide +kernel
theorem dX12_isWhole_67 : decode cX12_isWhole 67 = .ok (.iload_n 1, 1) := by decide +kernel
theorem dX12_isWhole_68 : decode cX12_isWhole 68 = .ok (.ireturn, 1) := by decide +kernel
