theorem dB_36_1_0 : ((((decode cX1_leastAlike 8 = .ok (.iload_n 3, 1)) ∧ (decode cX1_leastAlike 9 = .ok (.iload_n 2, 1))) ∧ ((decode cX1_leastAlike 10 = .ok (.invokevirtual 63, 3)) ∧ (decode cX1_leastAlike 13 = .ok (.iload_n 1, 1)))) ∧ (((decode cX1_leastAlike 14 = .ok (.if_icmp .lt 5, 3)) ∧ (decode cX1_leastAlike 17 = .ok (.iload_n 3, 1))) ∧ ((decode cX1_leastAlike 18 = .ok (.ireturn, 1)) ∧ (decode cX1_leastAlike 19 = .ok (.iinc 3 1, 3))))) ∧ ((((decode cX1_leastAlike 22 = .ok (.goto (-20), 3)) ∧ (decode cX1_leastAlike 25 = .ok (.iload_n 2, 1))) ∧ ((decode cX1_leastAlike 26 = .ok (.ireturn, 1)) ∧ (decode cX1_partsBelow 0 = .ok (.iconst 0, 1)))) ∧ (((decode cX1_partsBelow 1 = .ok (.istore_n 3, 1)) ∧ (decode cX1_partsBelow 2 = .ok (.iconst 0, 1))) ∧ ((decode cX1_partsBelow 3 = .ok (.istore 4, 2)) ∧ (decode cX1_partsBelow 5 = .ok (.iload 4, 2))))) := by first | decide +kernel | ((repeat' apply And.intro) <;> decide +kernel)
theorem dX1_leastAlike_8 : decode cX1_leastAlike 8 = .ok (.iload_n 3, 1) := dB_36_1_0.1.1.1.1
theorem dX1_leastAlike_9 : decode cX1_leastAlike 9 = .ok (.iload_n 2, 1) := dB_36_1_0.1.1.1.2
theorem dX1_leastAlike_10 : decode cX1_leastAlike 10 = .ok (.invokevirtual 63, 3) := dB_36_1_0.1.1.2.1
theorem dX1_leastAlike_13 : decode cX1_leastAlike 13 = .ok (.iload_n 1, 1) := dB_36_1_0.1.1.2.2
theorem dX1_leastAlike_14 : decode cX1_leastAlike 14 = .ok (.if_icmp .lt 5, 3) := dB_36_1_0.1.2.1.1
theorem dX1_leastAlike_17 : decode cX1_leastAlike 17 = .ok (.iload_n 3, 1) := dB_36_1_0.1.2.1.2
theorem dX1_leastAlike_18 : decode cX1_leastAlike 18 = .ok (.ireturn, 1) := dB_36_1_0.1.2.2.1
theorem dX1_leastAlike_19 : decode cX1_leastAlike 19 = .ok (.iinc 3 1, 3) := dB_36_1_0.1.2.2.2
theorem dX1_leastAlike_22 : decode cX1_leastAlike 22 = .ok (.goto (-20), 3) := dB_36_1_0.2.1.1.1
theorem dX1_leastAlike_25 : decode cX1_leastAlike 25 = .ok (.iload_n 2, 1) := dB_36_1_0.2.1.1.2
theorem dX1_leastAlike_26 : decode cX1_leastAlike 26 = .ok (.ireturn, 1) := dB_36_1_0.2.1.2.1
theorem dX1_partsBelow_0 : decode cX1_partsBelow 0 = .ok (.iconst 0, 1) := dB_36_1_0.2.1.2.2
theorem dX1_partsBelow_1 : decode cX1_partsBelow 1 = .ok (.istore_n 3, 1) := dB_36_1_0.2.2.1.1
theorem dX1_partsBelow_2 : decode cX1_partsBelow 2 = .ok (.iconst 0, 1) := dB_36_1_0.2.2.1.2
theorem dX1_partsBelow_3 : decode cX1_partsBelow 3 = .ok (.istore 4, 2) := dB_36_1_0.2.2.2.1
theorem dX1_partsBelow_5 : decode cX1_partsBelow 5 = .ok (.iload 4, 2) := dB_36_1_0.2.2.2.2
theorem dB_36_1_1 : ((((decode cX1_partsBelow 7 = .ok (.iload_n 2, 1)) ∧ (decode cX1_partsBelow 8 = .ok (.if_icmp .ge 29, 3))) ∧ ((decode cX1_partsBelow 11 = .ok (.iload_n 3, 1)) ∧ (decode cX1_partsBelow 12 = .ok (.aload_n 0, 1)))) ∧ (((decode cX1_partsBelow 13 = .ok (.iload_n 1, 1)) ∧ (decode cX1_partsBelow 14 = .ok (.iload 4, 2))) ∧ ((decode cX1_partsBelow 16 = .ok (.invokevirtual 66, 3)) ∧ (decode cX1_partsBelow 19 = .ok (.iload 4, 2))))) ∧ ((((decode cX1_partsBelow 21 = .ok (.if_icmp .ne 7, 3)) ∧ (decode cX1_partsBelow 24 = .ok (.iconst 1, 1))) ∧ ((decode cX1_partsBelow 25 = .ok (.goto 4, 3)) ∧ (decode cX1_partsBelow 28 = .ok (.iconst 0, 1)))) ∧ (((decode cX1_partsBelow 29 = .ok (.iadd, 1)) ∧ (decode cX1_partsBelow 30 = .ok (.istore_n 3, 1))) ∧ ((decode cX1_partsBelow 31 = .ok (.iinc 4 1, 3)) ∧ (decode cX1_partsBelow 34 = .ok (.goto (-29), 3))))) := by first | decide +kernel | ((repeat' apply And.intro) <;> decide +kernel)
theorem dX1_partsBelow_7 : decode cX1_partsBelow 7 = .ok (.iload_n 2, 1) := dB_36_1_1.1.1.1.1
theorem dX1_partsBelow_8 : decode cX1_partsBelow 8 = .ok (.if_icmp .ge 29, 3) := dB_36_1_1.1.1.1.2
theorem dX1_partsBelow_11 : decode cX1_partsBelow 11 = .ok (.iload_n 3, 1) := dB_36_1_1.1.1.2.1
theorem dX1_partsBelow_12 : decode cX1_partsBelow 12 = .ok (.aload_n 0, 1) := dB_36_1_1.1.1.2.2
theorem dX1_partsBelow_13 : decode cX1_partsBelow 13 = .ok (.iload_n 1, 1) := dB_36_1_1.1.2.1.1
theorem dX1_partsBelow_14 : decode cX1_partsBelow 14 = .ok (.iload 4, 2) := dB_36_1_1.1.2.1.2
theorem dX1_partsBelow_16 : decode cX1_partsBelow 16 = .ok (.invokevirtual 66, 3) := dB_36_1_1.1.2.2.1
theorem dX1_partsBelow_19 : decode cX1_partsBelow 19 = .ok (.iload 4, 2) := dB_36_1_1.1.2.2.2
theorem dX1_partsBelow_21 : decode cX1_partsBelow 21 = .ok (.if_icmp .ne 7, 3) := dB_36_1_1.2.1.1.1
theorem dX1_partsBelow_24 : decode cX1_partsBelow 24 = .ok (.iconst 1, 1) := dB_36_1_1.2.1.1.2
theorem dX1_partsBelow_25 : decode cX1_partsBelow 25 = .ok (.goto 4, 3) := dB_36_1_1.2.1.2.1
theorem dX1_partsBelow_28 : decode cX1_partsBelow 28 = .ok (.iconst 0, 1) := dB_36_1_1.2.1.2.2
theorem dX1_partsBelow_29 : decode cX1_partsBelow 29 = .ok (.iadd, 1) := dB_36_1_1.2.2.1.1
theorem dX1_partsBelow_30 : decode cX1_partsBelow 30 = .ok (.istore_n 3, 1) := dB_36_1_1.2.2.1.2
theorem dX1_partsBelow_31 : decode cX1_partsBelow 31 = .ok (.iinc 4 1, 3) := dB_36_1_1.2.2.2.1
theorem dX1_partsBelow_34 : decode cX1_partsBelow 34 = .ok (.goto (-29), 3) := dB_36_1_1.2.2.2.2
theorem dB_36_1_2 : ((((decode cX1_partsBelow 37 = .ok (.iload_n 3, 1)) ∧ (decode cX1_partsBelow 38 = .ok (.ireturn, 1))) ∧ ((decode cX2_init 0 = .ok (.aload_n 0, 1)) ∧ (decode cX2_init 1 = .ok (.invokespecial 1, 3)))) ∧ (((decode cX2_init 4 = .ok (.return_, 1)) ∧ (decode cX2_costs 0 = .ok (.iload_n 1, 1))) ∧ ((decode cX2_costs 1 = .ok (.ireturn, 1)) ∧ (decode cX2_costsMark 0 = .ok (.sipush 10000, 3))))) ∧ ((((decode cX2_costsMark 3 = .ok (.ireturn, 1)) ∧ (decode cX3_init 0 = .ok (.aload_n 0, 1))) ∧ ((decode cX3_init 1 = .ok (.invokespecial 3, 3)) ∧ (decode cX3_init 4 = .ok (.aload_n 0, 1)))) ∧ (((decode cX3_init 5 = .ok (.iconst 0, 1)) ∧ (decode cX3_init 6 = .ok (.putfield 9, 3))) ∧ ((decode cX3_init 9 = .ok (.aload_n 0, 1)) ∧ (decode cX3_init 10 = .ok (.iconst 0, 1))))) := by first | decide +kernel | ((repeat' apply And.intro) <;> decide +kernel)
theorem dX1_partsBelow_37 : decode cX1_partsBelow 37 = .ok (.iload_n 3, 1) := dB_36_1_2.1.1.1.1
theorem dX1_partsBelow_38 : decode cX1_partsBelow 38 = .ok (.ireturn, 1) := dB_36_1_2.1.1.1.2
theorem dX2_init_0 : decode cX2_init 0 = .ok (.aload_n 0, 1) := dB_36_1_2.1.1.2.1
theorem dX2_init_1 : decode cX2_init 1 = .ok (.invokespecial 1, 3) := dB_36_1_2.1.1.2.2
theorem dX2_init_4 : decode cX2_init 4 = .ok (.return_, 1) := dB_36_1_2.1.2.1.1
theorem dX2_costs_0 : decode cX2_costs 0 = .ok (.iload_n 1, 1) := dB_36_1_2.1.2.1.2
theorem dX2_costs_1 : decode cX2_costs 1 = .ok (.ireturn, 1) := dB_36_1_2.1.2.2.1
theorem dX2_costsMark_0 : decode cX2_costsMark 0 = .ok (.sipush 10000, 3) := dB_36_1_2.1.2.2.2
theorem dX2_costsMark_3 : decode cX2_costsMark 3 = .ok (.ireturn, 1) := dB_36_1_2.2.1.1.1
theorem dX3_init_0 : decode cX3_init 0 = .ok (.aload_n 0, 1) := dB_36_1_2.2.1.1.2
theorem dX3_init_1 : decode cX3_init 1 = .ok (.invokespecial 3, 3) := dB_36_1_2.2.1.2.1
theorem dX3_init_4 : decode cX3_init 4 = .ok (.aload_n 0, 1) := dB_36_1_2.2.1.2.2
theorem dX3_init_5 : decode cX3_init 5 = .ok (.iconst 0, 1) := dB_36_1_2.2.2.1.1
theorem dX3_init_6 : decode cX3_init 6 = .ok (.putfield 9, 3) := dB_36_1_2.2.2.1.2
theorem dX3_init_9 : decode cX3_init 9 = .ok (.aload_n 0, 1) := dB_36_1_2.2.2.2.1
theorem dX3_init_10 : decode cX3_init 10 = .ok (.iconst 0, 1) := dB_36_1_2.2.2.2.2
theorem dB_36_1_3 : ((((decode cX3_init 11 = .ok (.putfield 15, 3)) ∧ (decode cX3_init 14 = .ok (.aload_n 0, 1))) ∧ ((decode cX3_init 15 = .ok (.bipush 40, 2)) ∧ (decode cX3_init 17 = .ok (.newarray .int, 2)))) ∧ (((decode cX3_init 19 = .ok (.putfield 18, 3)) ∧ (decode cX3_init 22 = .ok (.aload_n 0, 1))) ∧ ((decode cX3_init 23 = .ok (.bipush 40, 2)) ∧ (decode cX3_init 25 = .ok (.newarray .int, 2))))) ∧ ((((decode cX3_init 27 = .ok (.putfield 22, 3)) ∧ (decode cX3_init 30 = .ok (.aload_n 0, 1))) ∧ ((decode cX3_init 31 = .ok (.bipush 40, 2)) ∧ (decode cX3_init 33 = .ok (.newarray .int, 2)))) ∧ (((decode cX3_init 35 = .ok (.putfield 25, 3)) ∧ (decode cX3_init 38 = .ok (.aload_n 0, 1))) ∧ ((decode cX3_init 39 = .ok (.bipush 40, 2)) ∧ (decode cX3_init 41 = .ok (.newarray .int, 2))))) := by first | decide +kernel | ((repeat' apply And.intro) <;> decide +kernel)
theorem dX3_init_11 : decode cX3_init 11 = .ok (.putfield 15, 3) := dB_36_1_3.1.1.1.1
theorem dX3_init_14 : decode cX3_init 14 = .ok (.aload_n 0, 1) := dB_36_1_3.1.1.1.2
theorem dX3_init_15 : decode cX3_init 15 = .ok (.bipush 40, 2) := dB_36_1_3.1.1.2.1
theorem dX3_init_17 : decode cX3_init 17 = .ok (.newarray .int, 2) := dB_36_1_3.1.1.2.2
theorem dX3_init_19 : decode cX3_init 19 = .ok (.putfield 18, 3) := dB_36_1_3.1.2.1.1
theorem dX3_init_22 : decode cX3_init 22 = .ok (.aload_n 0, 1) := dB_36_1_3.1.2.1.2
theorem dX3_init_23 : decode cX3_init 23 = .ok (.bipush 40, 2) := dB_36_1_3.1.2.2.1
theorem dX3_init_25 : decode cX3_init 25 = .ok (.newarray .int, 2) := dB_36_1_3.1.2.2.2
theorem dX3_init_27 : decode cX3_init 27 = .ok (.putfield 22, 3) := dB_36_1_3.2.1.1.1
theorem dX3_init_30 : decode cX3_init 30 = .ok (.aload_n 0, 1) := dB_36_1_3.2.1.1.2
theorem dX3_init_31 : decode cX3_init 31 = .ok (.bipush 40, 2) := dB_36_1_3.2.1.2.1
theorem dX3_init_33 : decode cX3_init 33 = .ok (.newarray .int, 2) := dB_36_1_3.2.1.2.2
theorem dX3_init_35 : decode cX3_init 35 = .ok (.putfield 25, 3) := dB_36_1_3.2.2.1.1
theorem dX3_init_38 : decode cX3_init 38 = .ok (.aload_n 0, 1) := dB_36_1_3.2.2.1.2
theorem dX3_init_39 : decode cX3_init 39 = .ok (.bipush 40, 2) := dB_36_1_3.2.2.2.1
theorem dX3_init_41 : decode cX3_init 41 = .ok (.newarray .int, 2) := dB_36_1_3.2.2.2.2
theorem dB_36_1_4 : ((((decode cX3_init 43 = .ok (.putfield 28, 3)) ∧ (decode cX3_init 46 = .ok (.aload_n 0, 1))) ∧ ((decode cX3_init 47 = .ok (.bipush 40, 2)) ∧ (decode cX3_init 49 = .ok (.newarray .int, 2)))) ∧ (((decode cX3_init 51 = .ok (.putfield 31, 3)) ∧ (decode cX3_init 54 = .ok (.return_, 1))) ∧ ((decode cX3_hasPlace 0 = .ok (.lload_n 1, 1)) ∧ (decode cX3_hasPlace 1 = .ok (.lconst 0, 1))))) ∧ ((((decode cX3_hasPlace 2 = .ok (.lcmp, 1)) ∧ (decode cX3_hasPlace 3 = .ok (.ifCond .lt 17, 3))) ∧ ((decode cX3_hasPlace 6 = .ok (.lload_n 1, 1)) ∧ (decode cX3_hasPlace 7 = .ok (.aload_n 0, 1)))) ∧ (((decode cX3_hasPlace 8 = .ok (.getfield 9, 3)) ∧ (decode cX3_hasPlace 11 = .ok (.i2l, 1))) ∧ ((decode cX3_hasPlace 12 = .ok (.lcmp, 1)) ∧ (decode cX3_hasPlace 13 = .ok (.ifCond .ge 7, 3))))) := by first | decide +kernel | ((repeat' apply And.intro) <;> decide +kernel)
theorem dX3_init_43 : decode cX3_init 43 = .ok (.putfield 28, 3) := dB_36_1_4.1.1.1.1
theorem dX3_init_46 : decode cX3_init 46 = .ok (.aload_n 0, 1) := dB_36_1_4.1.1.1.2
theorem dX3_init_47 : decode cX3_init 47 = .ok (.bipush 40, 2) := dB_36_1_4.1.1.2.1
theorem dX3_init_49 : decode cX3_init 49 = .ok (.newarray .int, 2) := dB_36_1_4.1.1.2.2
theorem dX3_init_51 : decode cX3_init 51 = .ok (.putfield 31, 3) := dB_36_1_4.1.2.1.1
theorem dX3_init_54 : decode cX3_init 54 = .ok (.return_, 1) := dB_36_1_4.1.2.1.2
theorem dX3_hasPlace_0 : decode cX3_hasPlace 0 = .ok (.lload_n 1, 1) := dB_36_1_4.1.2.2.1
theorem dX3_hasPlace_1 : decode cX3_hasPlace 1 = .ok (.lconst 0, 1) := dB_36_1_4.1.2.2.2
theorem dX3_hasPlace_2 : decode cX3_hasPlace 2 = .ok (.lcmp, 1) := dB_36_1_4.2.1.1.1
theorem dX3_hasPlace_3 : decode cX3_hasPlace 3 = .ok (.ifCond .lt 17, 3) := dB_36_1_4.2.1.1.2
theorem dX3_hasPlace_6 : decode cX3_hasPlace 6 = .ok (.lload_n 1, 1) := dB_36_1_4.2.1.2.1
theorem dX3_hasPlace_7 : decode cX3_hasPlace 7 = .ok (.aload_n 0, 1) := dB_36_1_4.2.1.2.2
theorem dX3_hasPlace_8 : decode cX3_hasPlace 8 = .ok (.getfield 9, 3) := dB_36_1_4.2.2.1.1
theorem dX3_hasPlace_11 : decode cX3_hasPlace 11 = .ok (.i2l, 1) := dB_36_1_4.2.2.1.2
theorem dX3_hasPlace_12 : decode cX3_hasPlace 12 = .ok (.lcmp, 1) := dB_36_1_4.2.2.2.1
theorem dX3_hasPlace_13 : decode cX3_hasPlace 13 = .ok (.ifCond .ge 7, 3) := dB_36_1_4.2.2.2.2
theorem dB_36_1_5 : ((((decode cX3_hasPlace 16 = .ok (.iconst 1, 1)) ∧ (decode cX3_hasPlace 17 = .ok (.goto 4, 3))) ∧ ((decode cX3_hasPlace 20 = .ok (.iconst 0, 1)) ∧ (decode cX3_hasPlace 21 = .ok (.ireturn, 1)))) ∧ (((decode cX3_hasPair 0 = .ok (.aload_n 0, 1)) ∧ (decode cX3_hasPair 1 = .ok (.lload_n 1, 1))) ∧ ((decode cX3_hasPair 2 = .ok (.invokevirtual 34, 3)) ∧ (decode cX3_hasPair 5 = .ok (.ifCond .eq 21, 3))))) ∧ ((((decode cX3_hasPair 8 = .ok (.aload_n 0, 1)) ∧ (decode cX3_hasPair 9 = .ok (.lload_n 3, 1))) ∧ ((decode cX3_hasPair 10 = .ok (.invokevirtual 34, 3)) ∧ (decode cX3_hasPair 13 = .ok (.ifCond .eq 13, 3)))) ∧ (((decode cX3_hasPair 16 = .ok (.lload_n 1, 1)) ∧ (decode cX3_hasPair 17 = .ok (.lload_n 3, 1))) ∧ ((decode cX3_hasPair 18 = .ok (.lcmp, 1)) ∧ (decode cX3_hasPair 19 = .ok (.ifCond .eq 7, 3))))) := by first | decide +kernel | ((repeat' apply And.intro) <;> decide +kernel)
theorem dX3_hasPlace_16 : decode cX3_hasPlace 16 = .ok (.iconst 1, 1) := dB_36_1_5.1.1.1.1
theorem dX3_hasPlace_17 : decode cX3_hasPlace 17 = .ok (.goto 4, 3) := dB_36_1_5.1.1.1.2
theorem dX3_hasPlace_20 : decode cX3_hasPlace 20 = .ok (.iconst 0, 1) := dB_36_1_5.1.1.2.1
theorem dX3_hasPlace_21 : decode cX3_hasPlace 21 = .ok (.ireturn, 1) := dB_36_1_5.1.1.2.2
theorem dX3_hasPair_0 : decode cX3_hasPair 0 = .ok (.aload_n 0, 1) := dB_36_1_5.1.2.1.1
theorem dX3_hasPair_1 : decode cX3_hasPair 1 = .ok (.lload_n 1, 1) := dB_36_1_5.1.2.1.2
theorem dX3_hasPair_2 : decode cX3_hasPair 2 = .ok (.invokevirtual 34, 3) := dB_36_1_5.1.2.2.1
theorem dX3_hasPair_5 : decode cX3_hasPair 5 = .ok (.ifCond .eq 21, 3) := dB_36_1_5.1.2.2.2
theorem dX3_hasPair_8 : decode cX3_hasPair 8 = .ok (.aload_n 0, 1) := dB_36_1_5.2.1.1.1
theorem dX3_hasPair_9 : decode cX3_hasPair 9 = .ok (.lload_n 3, 1) := dB_36_1_5.2.1.1.2
theorem dX3_hasPair_10 : decode cX3_hasPair 10 = .ok (.invokevirtual 34, 3) := dB_36_1_5.2.1.2.1
theorem dX3_hasPair_13 : decode cX3_hasPair 13 = .ok (.ifCond .eq 13, 3) := dB_36_1_5.2.1.2.2
theorem dX3_hasPair_16 : decode cX3_hasPair 16 = .ok (.lload_n 1, 1) := dB_36_1_5.2.2.1.1
theorem dX3_hasPair_17 : decode cX3_hasPair 17 = .ok (.lload_n 3, 1) := dB_36_1_5.2.2.1.2
theorem dX3_hasPair_18 : decode cX3_hasPair 18 = .ok (.lcmp, 1) := dB_36_1_5.2.2.2.1
theorem dX3_hasPair_19 : decode cX3_hasPair 19 = .ok (.ifCond .eq 7, 3) := dB_36_1_5.2.2.2.2
theorem dB_36_1_6 : ((((decode cX3_hasPair 22 = .ok (.iconst 1, 1)) ∧ (decode cX3_hasPair 23 = .ok (.goto 4, 3))) ∧ ((decode cX3_hasPair 26 = .ok (.iconst 0, 1)) ∧ (decode cX3_hasPair 27 = .ok (.ireturn, 1)))) ∧ (((decode cX3_hasLine 0 = .ok (.iload_n 1, 1)) ∧ (decode cX3_hasLine 1 = .ok (.ifCond .lt 15, 3))) ∧ ((decode cX3_hasLine 4 = .ok (.iload_n 1, 1)) ∧ (decode cX3_hasLine 5 = .ok (.aload_n 0, 1))))) ∧ ((((decode cX3_hasLine 6 = .ok (.getfield 15, 3)) ∧ (decode cX3_hasLine 9 = .ok (.if_icmp .ge 7, 3))) ∧ ((decode cX3_hasLine 12 = .ok (.iconst 1, 1)) ∧ (decode cX3_hasLine 13 = .ok (.goto 4, 3)))) ∧ (((decode cX3_hasLine 16 = .ok (.iconst 0, 1)) ∧ (decode cX3_hasLine 17 = .ok (.ireturn, 1))) ∧ ((decode cX3_isMissing 0 = .ok (.aload_n 0, 1)) ∧ (decode cX3_isMissing 1 = .ok (.getfield 22, 3))))) := by first | decide +kernel | ((repeat' apply And.intro) <;> decide +kernel)
theorem dX3_hasPair_22 : decode cX3_hasPair 22 = .ok (.iconst 1, 1) := dB_36_1_6.1.1.1.1
theorem dX3_hasPair_23 : decode cX3_hasPair 23 = .ok (.goto 4, 3) := dB_36_1_6.1.1.1.2
theorem dX3_hasPair_26 : decode cX3_hasPair 26 = .ok (.iconst 0, 1) := dB_36_1_6.1.1.2.1
theorem dX3_hasPair_27 : decode cX3_hasPair 27 = .ok (.ireturn, 1) := dB_36_1_6.1.1.2.2
theorem dX3_hasLine_0 : decode cX3_hasLine 0 = .ok (.iload_n 1, 1) := dB_36_1_6.1.2.1.1
theorem dX3_hasLine_1 : decode cX3_hasLine 1 = .ok (.ifCond .lt 15, 3) := dB_36_1_6.1.2.1.2
theorem dX3_hasLine_4 : decode cX3_hasLine 4 = .ok (.iload_n 1, 1) := dB_36_1_6.1.2.2.1
theorem dX3_hasLine_5 : decode cX3_hasLine 5 = .ok (.aload_n 0, 1) := dB_36_1_6.1.2.2.2
theorem dX3_hasLine_6 : decode cX3_hasLine 6 = .ok (.getfield 15, 3) := dB_36_1_6.2.1.1.1
theorem dX3_hasLine_9 : decode cX3_hasLine 9 = .ok (.if_icmp .ge 7, 3) := dB_36_1_6.2.1.1.2
theorem dX3_hasLine_12 : decode cX3_hasLine 12 = .ok (.iconst 1, 1) := dB_36_1_6.2.1.2.1
theorem dX3_hasLine_13 : decode cX3_hasLine 13 = .ok (.goto 4, 3) := dB_36_1_6.2.1.2.2
theorem dX3_hasLine_16 : decode cX3_hasLine 16 = .ok (.iconst 0, 1) := dB_36_1_6.2.2.1.1
theorem dX3_hasLine_17 : decode cX3_hasLine 17 = .ok (.ireturn, 1) := dB_36_1_6.2.2.1.2
theorem dX3_isMissing_0 : decode cX3_isMissing 0 = .ok (.aload_n 0, 1) := dB_36_1_6.2.2.2.1
theorem dX3_isMissing_1 : decode cX3_isMissing 1 = .ok (.getfield 22, 3) := dB_36_1_6.2.2.2.2
theorem dB_36_1_7 : ((((decode cX3_isMissing 4 = .ok (.iload_n 1, 1)) ∧ (decode cX3_isMissing 5 = .ok (.iaload, 1))) ∧ ((decode cX3_isMissing 6 = .ok (.bipush (-9), 2)) ∧ (decode cX3_isMissing 8 = .ok (.if_icmp .ne 7, 3)))) ∧ (((decode cX3_isMissing 11 = .ok (.iconst 1, 1)) ∧ (decode cX3_isMissing 12 = .ok (.goto 4, 3))) ∧ ((decode cX3_isMissing 15 = .ok (.iconst 0, 1)) ∧ (decode cX3_isMissing 16 = .ok (.ireturn, 1))))) ∧ ((((decode cX3_missingLines 0 = .ok (.iconst 0, 1)) ∧ (decode cX3_missingLines 1 = .ok (.istore_n 1, 1))) ∧ ((decode cX3_missingLines 2 = .ok (.iconst 0, 1)) ∧ (decode cX3_missingLines 3 = .ok (.istore_n 2, 1)))) ∧ (((decode cX3_missingLines 4 = .ok (.iload_n 2, 1)) ∧ (decode cX3_missingLines 5 = .ok (.aload_n 0, 1))) ∧ ((decode cX3_missingLines 6 = .ok (.getfield 15, 3)) ∧ (decode cX3_missingLines 9 = .ok (.if_icmp .ge 25, 3))))) := by first | decide +kernel | ((repeat' apply And.intro) <;> decide +kernel)
theorem dX3_isMissing_4 : decode cX3_isMissing 4 = .ok (.iload_n 1, 1) := dB_36_1_7.1.1.1.1
theorem dX3_isMissing_5 : decode cX3_isMissing 5 = .ok (.iaload, 1) := dB_36_1_7.1.1.1.2
theorem dX3_isMissing_6 : decode cX3_isMissing 6 = .ok (.bipush (-9), 2) := dB_36_1_7.1.1.2.1
theorem dX3_isMissing_8 : decode cX3_isMissing 8 = .ok (.if_icmp .ne 7, 3) := dB_36_1_7.1.1.2.2
theorem dX3_isMissing_11 : decode cX3_isMissing 11 = .ok (.iconst 1, 1) := dB_36_1_7.1.2.1.1
theorem dX3_isMissing_12 : decode cX3_isMissing 12 = .ok (.goto 4, 3) := dB_36_1_7.1.2.1.2
theorem dX3_isMissing_15 : decode cX3_isMissing 15 = .ok (.iconst 0, 1) := dB_36_1_7.1.2.2.1
theorem dX3_isMissing_16 : decode cX3_isMissing 16 = .ok (.ireturn, 1) := dB_36_1_7.1.2.2.2
theorem dX3_missingLines_0 : decode cX3_missingLines 0 = .ok (.iconst 0, 1) := dB_36_1_7.2.1.1.1
theorem dX3_missingLines_1 : decode cX3_missingLines 1 = .ok (.istore_n 1, 1) := dB_36_1_7.2.1.1.2
theorem dX3_missingLines_2 : decode cX3_missingLines 2 = .ok (.iconst 0, 1) := dB_36_1_7.2.1.2.1
theorem dX3_missingLines_3 : decode cX3_missingLines 3 = .ok (.istore_n 2, 1) := dB_36_1_7.2.1.2.2
theorem dX3_missingLines_4 : decode cX3_missingLines 4 = .ok (.iload_n 2, 1) := dB_36_1_7.2.2.1.1
theorem dX3_missingLines_5 : decode cX3_missingLines 5 = .ok (.aload_n 0, 1) := dB_36_1_7.2.2.1.2
theorem dX3_missingLines_6 : decode cX3_missingLines 6 = .ok (.getfield 15, 3) := dB_36_1_7.2.2.2.1
theorem dX3_missingLines_9 : decode cX3_missingLines 9 = .ok (.if_icmp .ge 25, 3) := dB_36_1_7.2.2.2.2
theorem dB_36_1_8 : ((((decode cX3_missingLines 12 = .ok (.iload_n 1, 1)) ∧ (decode cX3_missingLines 13 = .ok (.aload_n 0, 1))) ∧ ((decode cX3_missingLines 14 = .ok (.iload_n 2, 1)) ∧ (decode cX3_missingLines 15 = .ok (.invokevirtual 38, 3)))) ∧ (((decode cX3_missingLines 18 = .ok (.ifCond .eq 7, 3)) ∧ (decode cX3_missingLines 21 = .ok (.iconst 1, 1))) ∧ ((decode cX3_missingLines 22 = .ok (.goto 4, 3)) ∧ (decode cX3_missingLines 25 = .ok (.iconst 0, 1))))) ∧ ((((decode cX3_missingLines 26 = .ok (.iadd, 1)) ∧ (decode cX3_missingLines 27 = .ok (.istore_n 1, 1))) ∧ ((decode cX3_missingLines 28 = .ok (.iinc 2 1, 3)) ∧ (decode cX3_missingLines 31 = .ok (.goto (-27), 3)))) ∧ (((decode cX3_missingLines 34 = .ok (.iload_n 1, 1)) ∧ (decode cX3_missingLines 35 = .ok (.ireturn, 1))) ∧ ((decode cX3_isWhole 0 = .ok (.iconst 0, 1)) ∧ (decode cX3_isWhole 1 = .ok (.istore_n 1, 1))))) := by first | decide +kernel | ((repeat' apply And.intro) <;> decide +kernel)
theorem dX3_missingLines_12 : decode cX3_missingLines 12 = .ok (.iload_n 1, 1) := dB_36_1_8.1.1.1.1
theorem dX3_missingLines_13 : decode cX3_missingLines 13 = .ok (.aload_n 0, 1) := dB_36_1_8.1.1.1.2
theorem dX3_missingLines_14 : decode cX3_missingLines 14 = .ok (.iload_n 2, 1) := dB_36_1_8.1.1.2.1
theorem dX3_missingLines_15 : decode cX3_missingLines 15 = .ok (.invokevirtual 38, 3) := dB_36_1_8.1.1.2.2
theorem dX3_missingLines_18 : decode cX3_missingLines 18 = .ok (.ifCond .eq 7, 3) := dB_36_1_8.1.2.1.1
theorem dX3_missingLines_21 : decode cX3_missingLines 21 = .ok (.iconst 1, 1) := dB_36_1_8.1.2.1.2
theorem dX3_missingLines_22 : decode cX3_missingLines 22 = .ok (.goto 4, 3) := dB_36_1_8.1.2.2.1
theorem dX3_missingLines_25 : decode cX3_missingLines 25 = .ok (.iconst 0, 1) := dB_36_1_8.1.2.2.2
theorem dX3_missingLines_26 : decode cX3_missingLines 26 = .ok (.iadd, 1) := dB_36_1_8.2.1.1.1
theorem dX3_missingLines_27 : decode cX3_missingLines 27 = .ok (.istore_n 1, 1) := dB_36_1_8.2.1.1.2
theorem dX3_missingLines_28 : decode cX3_missingLines 28 = .ok (.iinc 2 1, 3) := dB_36_1_8.2.1.2.1
theorem dX3_missingLines_31 : decode cX3_missingLines 31 = .ok (.goto (-27), 3) := dB_36_1_8.2.1.2.2
theorem dX3_missingLines_34 : decode cX3_missingLines 34 = .ok (.iload_n 1, 1) := dB_36_1_8.2.2.1.1
theorem dX3_missingLines_35 : decode cX3_missingLines 35 = .ok (.ireturn, 1) := dB_36_1_8.2.2.1.2
theorem dX3_isWhole_0 : decode cX3_isWhole 0 = .ok (.iconst 0, 1) := dB_36_1_8.2.2.2.1
theorem dX3_isWhole_1 : decode cX3_isWhole 1 = .ok (.istore_n 1, 1) := dB_36_1_8.2.2.2.2
theorem dB_36_1_9 : ((((decode cX3_isWhole 2 = .ok (.iload_n 1, 1)) ∧ (decode cX3_isWhole 3 = .ok (.aload_n 0, 1))) ∧ ((decode cX3_isWhole 4 = .ok (.getfield 15, 3)) ∧ (decode cX3_isWhole 7 = .ok (.if_icmp .ge 49, 3)))) ∧ (((decode cX3_isWhole 10 = .ok (.aload_n 0, 1)) ∧ (decode cX3_isWhole 11 = .ok (.getfield 18, 3))) ∧ ((decode cX3_isWhole 14 = .ok (.iload_n 1, 1)) ∧ (decode cX3_isWhole 15 = .ok (.iaload, 1))))) ∧ ((((decode cX3_isWhole 16 = .ok (.iconst 1, 1)) ∧ (decode cX3_isWhole 17 = .ok (.if_icmp .eq 13, 3))) ∧ ((decode cX3_isWhole 20 = .ok (.aload_n 0, 1)) ∧ (decode cX3_isWhole 21 = .ok (.getfield 18, 3)))) ∧ (((decode cX3_isWhole 24 = .ok (.iload_n 1, 1)) ∧ (decode cX3_isWhole 25 = .ok (.iaload, 1))) ∧ ((decode cX3_isWhole 26 = .ok (.iconst 2, 1)) ∧ (decode cX3_isWhole 27 = .ok (.if_icmp .ne 7, 3))))) := by first | decide +kernel | ((repeat' apply And.intro) <;> decide +kernel)
theorem dX3_isWhole_2 : decode cX3_isWhole 2 = .ok (.iload_n 1, 1) := dB_36_1_9.1.1.1.1
theorem dX3_isWhole_3 : decode cX3_isWhole 3 = .ok (.aload_n 0, 1) := dB_36_1_9.1.1.1.2
theorem dX3_isWhole_4 : decode cX3_isWhole 4 = .ok (.getfield 15, 3) := dB_36_1_9.1.1.2.1
theorem dX3_isWhole_7 : decode cX3_isWhole 7 = .ok (.if_icmp .ge 49, 3) := dB_36_1_9.1.1.2.2
theorem dX3_isWhole_10 : decode cX3_isWhole 10 = .ok (.aload_n 0, 1) := dB_36_1_9.1.2.1.1
theorem dX3_isWhole_11 : decode cX3_isWhole 11 = .ok (.getfield 18, 3) := dB_36_1_9.1.2.1.2
theorem dX3_isWhole_14 : decode cX3_isWhole 14 = .ok (.iload_n 1, 1) := dB_36_1_9.1.2.2.1
theorem dX3_isWhole_15 : decode cX3_isWhole 15 = .ok (.iaload, 1) := dB_36_1_9.1.2.2.2
theorem dX3_isWhole_16 : decode cX3_isWhole 16 = .ok (.iconst 1, 1) := dB_36_1_9.2.1.1.1
theorem dX3_isWhole_17 : decode cX3_isWhole 17 = .ok (.if_icmp .eq 13, 3) := dB_36_1_9.2.1.1.2
theorem dX3_isWhole_20 : decode cX3_isWhole 20 = .ok (.aload_n 0, 1) := dB_36_1_9.2.1.2.1
theorem dX3_isWhole_21 : decode cX3_isWhole 21 = .ok (.getfield 18, 3) := dB_36_1_9.2.1.2.2
theorem dX3_isWhole_24 : decode cX3_isWhole 24 = .ok (.iload_n 1, 1) := dB_36_1_9.2.2.1.1
theorem dX3_isWhole_25 : decode cX3_isWhole 25 = .ok (.iaload, 1) := dB_36_1_9.2.2.1.2
theorem dX3_isWhole_26 : decode cX3_isWhole 26 = .ok (.iconst 2, 1) := dB_36_1_9.2.2.2.1
theorem dX3_isWhole_27 : decode cX3_isWhole 27 = .ok (.if_icmp .ne 7, 3) := dB_36_1_9.2.2.2.2
theorem dB_36_1_10 : ((((decode cX3_isWhole 30 = .ok (.iconst 1, 1)) ∧ (decode cX3_isWhole 31 = .ok (.goto 4, 3))) ∧ ((decode cX3_isWhole 34 = .ok (.iconst 0, 1)) ∧ (decode cX3_isWhole 35 = .ok (.istore_n 2, 1)))) ∧ (((decode cX3_isWhole 36 = .ok (.iload_n 2, 1)) ∧ (decode cX3_isWhole 37 = .ok (.ifCond .eq 13, 3))) ∧ ((decode cX3_isWhole 40 = .ok (.aload_n 0, 1)) ∧ (decode cX3_isWhole 41 = .ok (.iload_n 1, 1))))) ∧ ((((decode cX3_isWhole 42 = .ok (.invokevirtual 38, 3)) ∧ (decode cX3_isWhole 45 = .ok (.ifCond .ne 5, 3))) ∧ ((decode cX3_isWhole 48 = .ok (.iconst 0, 1)) ∧ (decode cX3_isWhole 49 = .ok (.ireturn, 1)))) ∧ (((decode cX3_isWhole 50 = .ok (.iinc 1 1, 3)) ∧ (decode cX3_isWhole 53 = .ok (.goto (-51), 3))) ∧ ((decode cX3_isWhole 56 = .ok (.aload_n 0, 1)) ∧ (decode cX3_isWhole 57 = .ok (.getfield 9, 3))))) := by first | decide +kernel | ((repeat' apply And.intro) <;> decide +kernel)
theorem dX3_isWhole_30 : decode cX3_isWhole 30 = .ok (.iconst 1, 1) := dB_36_1_10.1.1.1.1
theorem dX3_isWhole_31 : decode cX3_isWhole 31 = .ok (.goto 4, 3) := dB_36_1_10.1.1.1.2
theorem dX3_isWhole_34 : decode cX3_isWhole 34 = .ok (.iconst 0, 1) := dB_36_1_10.1.1.2.1
theorem dX3_isWhole_35 : decode cX3_isWhole 35 = .ok (.istore_n 2, 1) := dB_36_1_10.1.1.2.2
theorem dX3_isWhole_36 : decode cX3_isWhole 36 = .ok (.iload_n 2, 1) := dB_36_1_10.1.2.1.1
theorem dX3_isWhole_37 : decode cX3_isWhole 37 = .ok (.ifCond .eq 13, 3) := dB_36_1_10.1.2.1.2
theorem dX3_isWhole_40 : decode cX3_isWhole 40 = .ok (.aload_n 0, 1) := dB_36_1_10.1.2.2.1
theorem dX3_isWhole_41 : decode cX3_isWhole 41 = .ok (.iload_n 1, 1) := dB_36_1_10.1.2.2.2
theorem dX3_isWhole_42 : decode cX3_isWhole 42 = .ok (.invokevirtual 38, 3) := dB_36_1_10.2.1.1.1
theorem dX3_isWhole_45 : decode cX3_isWhole 45 = .ok (.ifCond .ne 5, 3) := dB_36_1_10.2.1.1.2
theorem dX3_isWhole_48 : decode cX3_isWhole 48 = .ok (.iconst 0, 1) := dB_36_1_10.2.1.2.1
theorem dX3_isWhole_49 : decode cX3_isWhole 49 = .ok (.ireturn, 1) := dB_36_1_10.2.1.2.2
theorem dX3_isWhole_50 : decode cX3_isWhole 50 = .ok (.iinc 1 1, 3) := dB_36_1_10.2.2.1.1
theorem dX3_isWhole_53 : decode cX3_isWhole 53 = .ok (.goto (-51), 3) := dB_36_1_10.2.2.1.2
theorem dX3_isWhole_56 : decode cX3_isWhole 56 = .ok (.aload_n 0, 1) := dB_36_1_10.2.2.2.1
theorem dX3_isWhole_57 : decode cX3_isWhole 57 = .ok (.getfield 9, 3) := dB_36_1_10.2.2.2.2
theorem dB_36_1_11 : ((((decode cX3_isWhole 60 = .ok (.iconst 2, 1)) ∧ (decode cX3_isWhole 61 = .ok (.if_icmp .lt 7, 3))) ∧ ((decode cX3_isWhole 64 = .ok (.iconst 1, 1)) ∧ (decode cX3_isWhole 65 = .ok (.goto 4, 3)))) ∧ (((decode cX3_isWhole 68 = .ok (.iconst 0, 1)) ∧ (decode cX3_isWhole 69 = .ok (.ireturn, 1))) ∧ ((decode cX3_append 0 = .ok (.aload_n 0, 1)) ∧ (decode cX3_append 1 = .ok (.getfield 18, 3))))) ∧ ((((decode cX3_append 4 = .ok (.aload_n 0, 1)) ∧ (decode cX3_append 5 = .ok (.getfield 15, 3))) ∧ ((decode cX3_append 8 = .ok (.iload_n 1, 1)) ∧ (decode cX3_append 9 = .ok (.iastore, 1)))) ∧ (((decode cX3_append 10 = .ok (.aload_n 0, 1)) ∧ (decode cX3_append 11 = .ok (.getfield 22, 3))) ∧ ((decode cX3_append 14 = .ok (.aload_n 0, 1)) ∧ (decode cX3_append 15 = .ok (.getfield 15, 3))))) := by first | decide +kernel | ((repeat' apply And.intro) <;> decide +kernel)
theorem dX3_isWhole_60 : decode cX3_isWhole 60 = .ok (.iconst 2, 1) := dB_36_1_11.1.1.1.1
theorem dX3_isWhole_61 : decode cX3_isWhole 61 = .ok (.if_icmp .lt 7, 3) := dB_36_1_11.1.1.1.2
theorem dX3_isWhole_64 : decode cX3_isWhole 64 = .ok (.iconst 1, 1) := dB_36_1_11.1.1.2.1
theorem dX3_isWhole_65 : decode cX3_isWhole 65 = .ok (.goto 4, 3) := dB_36_1_11.1.1.2.2
theorem dX3_isWhole_68 : decode cX3_isWhole 68 = .ok (.iconst 0, 1) := dB_36_1_11.1.2.1.1
theorem dX3_isWhole_69 : decode cX3_isWhole 69 = .ok (.ireturn, 1) := dB_36_1_11.1.2.1.2
theorem dX3_append_0 : decode cX3_append 0 = .ok (.aload_n 0, 1) := dB_36_1_11.1.2.2.1
theorem dX3_append_1 : decode cX3_append 1 = .ok (.getfield 18, 3) := dB_36_1_11.1.2.2.2
theorem dX3_append_4 : decode cX3_append 4 = .ok (.aload_n 0, 1) := dB_36_1_11.2.1.1.1
theorem dX3_append_5 : decode cX3_append 5 = .ok (.getfield 15, 3) := dB_36_1_11.2.1.1.2
theorem dX3_append_8 : decode cX3_append 8 = .ok (.iload_n 1, 1) := dB_36_1_11.2.1.2.1
theorem dX3_append_9 : decode cX3_append 9 = .ok (.iastore, 1) := dB_36_1_11.2.1.2.2
theorem dX3_append_10 : decode cX3_append 10 = .ok (.aload_n 0, 1) := dB_36_1_11.2.2.1.1
theorem dX3_append_11 : decode cX3_append 11 = .ok (.getfield 22, 3) := dB_36_1_11.2.2.1.2
theorem dX3_append_14 : decode cX3_append 14 = .ok (.aload_n 0, 1) := dB_36_1_11.2.2.2.1
theorem dX3_append_15 : decode cX3_append 15 = .ok (.getfield 15, 3) := dB_36_1_11.2.2.2.2
theorem dB_36_1_12 : ((((decode cX3_append 18 = .ok (.iload_n 2, 1)) ∧ (decode cX3_append 19 = .ok (.iastore, 1))) ∧ ((decode cX3_append 20 = .ok (.aload_n 0, 1)) ∧ (decode cX3_append 21 = .ok (.getfield 25, 3)))) ∧ (((decode cX3_append 24 = .ok (.aload_n 0, 1)) ∧ (decode cX3_append 25 = .ok (.getfield 15, 3))) ∧ ((decode cX3_append 28 = .ok (.iload_n 3, 1)) ∧ (decode cX3_append 29 = .ok (.iastore, 1))))) ∧ ((((decode cX3_append 30 = .ok (.aload_n 0, 1)) ∧ (decode cX3_append 31 = .ok (.getfield 28, 3))) ∧ ((decode cX3_append 34 = .ok (.aload_n 0, 1)) ∧ (decode cX3_append 35 = .ok (.getfield 15, 3)))) ∧ (((decode cX3_append 38 = .ok (.iload 4, 2)) ∧ (decode cX3_append 40 = .ok (.iastore, 1))) ∧ ((decode cX3_append 41 = .ok (.aload_n 0, 1)) ∧ (decode cX3_append 42 = .ok (.getfield 31, 3))))) := by first | decide +kernel | ((repeat' apply And.intro) <;> decide +kernel)
theorem dX3_append_18 : decode cX3_append 18 = .ok (.iload_n 2, 1) := dB_36_1_12.1.1.1.1
theorem dX3_append_19 : decode cX3_append 19 = .ok (.iastore, 1) := dB_36_1_12.1.1.1.2
theorem dX3_append_20 : decode cX3_append 20 = .ok (.aload_n 0, 1) := dB_36_1_12.1.1.2.1
theorem dX3_append_21 : decode cX3_append 21 = .ok (.getfield 25, 3) := dB_36_1_12.1.1.2.2
theorem dX3_append_24 : decode cX3_append 24 = .ok (.aload_n 0, 1) := dB_36_1_12.1.2.1.1
theorem dX3_append_25 : decode cX3_append 25 = .ok (.getfield 15, 3) := dB_36_1_12.1.2.1.2
theorem dX3_append_28 : decode cX3_append 28 = .ok (.iload_n 3, 1) := dB_36_1_12.1.2.2.1
theorem dX3_append_29 : decode cX3_append 29 = .ok (.iastore, 1) := dB_36_1_12.1.2.2.2
theorem dX3_append_30 : decode cX3_append 30 = .ok (.aload_n 0, 1) := dB_36_1_12.2.1.1.1
theorem dX3_append_31 : decode cX3_append 31 = .ok (.getfield 28, 3) := dB_36_1_12.2.1.1.2
theorem dX3_append_34 : decode cX3_append 34 = .ok (.aload_n 0, 1) := dB_36_1_12.2.1.2.1
theorem dX3_append_35 : decode cX3_append 35 = .ok (.getfield 15, 3) := dB_36_1_12.2.1.2.2
theorem dX3_append_38 : decode cX3_append 38 = .ok (.iload 4, 2) := dB_36_1_12.2.2.1.1
theorem dX3_append_40 : decode cX3_append 40 = .ok (.iastore, 1) := dB_36_1_12.2.2.1.2
theorem dX3_append_41 : decode cX3_append 41 = .ok (.aload_n 0, 1) := dB_36_1_12.2.2.2.1
theorem dX3_append_42 : decode cX3_append 42 = .ok (.getfield 31, 3) := dB_36_1_12.2.2.2.2
theorem dB_36_1_13 : ((((decode cX3_append 45 = .ok (.aload_n 0, 1)) ∧ (decode cX3_append 46 = .ok (.getfield 15, 3))) ∧ ((decode cX3_append 49 = .ok (.iload 5, 2)) ∧ (decode cX3_append 51 = .ok (.iastore, 1)))) ∧ (((decode cX3_append 52 = .ok (.aload_n 0, 1)) ∧ (decode cX3_append 53 = .ok (.dup, 1))) ∧ ((decode cX3_append 54 = .ok (.getfield 15, 3)) ∧ (decode cX3_append 57 = .ok (.iconst 1, 1))))) ∧ ((((decode cX3_append 58 = .ok (.iadd, 1)) ∧ (decode cX3_append 59 = .ok (.putfield 15, 3))) ∧ ((decode cX3_append 62 = .ok (.aload_n 0, 1)) ∧ (decode cX3_append 63 = .ok (.getfield 15, 3)))) ∧ (((decode cX3_append 66 = .ok (.iconst 1, 1)) ∧ (decode cX3_append 67 = .ok (.isub, 1))) ∧ ((decode cX3_append 68 = .ok (.ireturn, 1)) ∧ (decode cX3_join 0 = .ok (.iconst 0, 1))))) := by first | decide +kernel | ((repeat' apply And.intro) <;> decide +kernel)
theorem dX3_append_45 : decode cX3_append 45 = .ok (.aload_n 0, 1) := dB_36_1_13.1.1.1.1
theorem dX3_append_46 : decode cX3_append 46 = .ok (.getfield 15, 3) := dB_36_1_13.1.1.1.2
theorem dX3_append_49 : decode cX3_append 49 = .ok (.iload 5, 2) := dB_36_1_13.1.1.2.1
theorem dX3_append_51 : decode cX3_append 51 = .ok (.iastore, 1) := dB_36_1_13.1.1.2.2
theorem dX3_append_52 : decode cX3_append 52 = .ok (.aload_n 0, 1) := dB_36_1_13.1.2.1.1
theorem dX3_append_53 : decode cX3_append 53 = .ok (.dup, 1) := dB_36_1_13.1.2.1.2
theorem dX3_append_54 : decode cX3_append 54 = .ok (.getfield 15, 3) := dB_36_1_13.1.2.2.1
theorem dX3_append_57 : decode cX3_append 57 = .ok (.iconst 1, 1) := dB_36_1_13.1.2.2.2
theorem dX3_append_58 : decode cX3_append 58 = .ok (.iadd, 1) := dB_36_1_13.2.1.1.1
theorem dX3_append_59 : decode cX3_append 59 = .ok (.putfield 15, 3) := dB_36_1_13.2.1.1.2
theorem dX3_append_62 : decode cX3_append 62 = .ok (.aload_n 0, 1) := dB_36_1_13.2.1.2.1
theorem dX3_append_63 : decode cX3_append 63 = .ok (.getfield 15, 3) := dB_36_1_13.2.1.2.2
theorem dX3_append_66 : decode cX3_append 66 = .ok (.iconst 1, 1) := dB_36_1_13.2.2.1.1
theorem dX3_append_67 : decode cX3_append 67 = .ok (.isub, 1) := dB_36_1_13.2.2.1.2
theorem dX3_append_68 : decode cX3_append 68 = .ok (.ireturn, 1) := dB_36_1_13.2.2.2.1
theorem dX3_join_0 : decode cX3_join 0 = .ok (.iconst 0, 1) := dB_36_1_13.2.2.2.2
theorem dB_36_1_14 : ((((decode cX3_join 1 = .ok (.istore_n 3, 1)) ∧ (decode cX3_join 2 = .ok (.iconst 0, 1))) ∧ ((decode cX3_join 3 = .ok (.istore 4, 2)) ∧ (decode cX3_join 5 = .ok (.iload 4, 2)))) ∧ (((decode cX3_join 7 = .ok (.aload_n 0, 1)) ∧ (decode cX3_join 8 = .ok (.getfield 15, 3))) ∧ ((decode cX3_join 11 = .ok (.if_icmp .ge 94, 3)) ∧ (decode cX3_join 14 = .ok (.aload_n 0, 1))))) ∧ ((((decode cX3_join 15 = .ok (.iload 4, 2)) ∧ (decode cX3_join 17 = .ok (.invokevirtual 38, 3))) ∧ ((decode cX3_join 20 = .ok (.ifCond .ne 79, 3)) ∧ (decode cX3_join 23 = .ok (.aload_n 0, 1)))) ∧ (((decode cX3_join 24 = .ok (.getfield 22, 3)) ∧ (decode cX3_join 27 = .ok (.iload 4, 2))) ∧ ((decode cX3_join 29 = .ok (.aload_n 0, 1)) ∧ (decode cX3_join 30 = .ok (.getfield 22, 3))))) := by first | decide +kernel | ((repeat' apply And.intro) <;> decide +kernel)
theorem dX3_join_1 : decode cX3_join 1 = .ok (.istore_n 3, 1) := dB_36_1_14.1.1.1.1
theorem dX3_join_2 : decode cX3_join 2 = .ok (.iconst 0, 1) := dB_36_1_14.1.1.1.2
theorem dX3_join_3 : decode cX3_join 3 = .ok (.istore 4, 2) := dB_36_1_14.1.1.2.1
theorem dX3_join_5 : decode cX3_join 5 = .ok (.iload 4, 2) := dB_36_1_14.1.1.2.2
theorem dX3_join_7 : decode cX3_join 7 = .ok (.aload_n 0, 1) := dB_36_1_14.1.2.1.1
theorem dX3_join_8 : decode cX3_join 8 = .ok (.getfield 15, 3) := dB_36_1_14.1.2.1.2
theorem dX3_join_11 : decode cX3_join 11 = .ok (.if_icmp .ge 94, 3) := dB_36_1_14.1.2.2.1
theorem dX3_join_14 : decode cX3_join 14 = .ok (.aload_n 0, 1) := dB_36_1_14.1.2.2.2
theorem dX3_join_15 : decode cX3_join 15 = .ok (.iload 4, 2) := dB_36_1_14.2.1.1.1
theorem dX3_join_17 : decode cX3_join 17 = .ok (.invokevirtual 38, 3) := dB_36_1_14.2.1.1.2
theorem dX3_join_20 : decode cX3_join 20 = .ok (.ifCond .ne 79, 3) := dB_36_1_14.2.1.2.1
theorem dX3_join_23 : decode cX3_join 23 = .ok (.aload_n 0, 1) := dB_36_1_14.2.1.2.2
theorem dX3_join_24 : decode cX3_join 24 = .ok (.getfield 22, 3) := dB_36_1_14.2.2.1.1
theorem dX3_join_27 : decode cX3_join 27 = .ok (.iload 4, 2) := dB_36_1_14.2.2.1.2
theorem dX3_join_29 : decode cX3_join 29 = .ok (.aload_n 0, 1) := dB_36_1_14.2.2.2.1
theorem dX3_join_30 : decode cX3_join 30 = .ok (.getfield 22, 3) := dB_36_1_14.2.2.2.2
theorem dB_36_1_15 : ((((decode cX3_join 33 = .ok (.iload 4, 2)) ∧ (decode cX3_join 35 = .ok (.iaload, 1))) ∧ ((decode cX3_join 36 = .ok (.iload_n 1, 1)) ∧ (decode cX3_join 37 = .ok (.iload_n 2, 1)))) ∧ (((decode cX3_join 38 = .ok (.invokestatic 42, 3)) ∧ (decode cX3_join 41 = .ok (.iastore, 1))) ∧ ((decode cX3_join 42 = .ok (.aload_n 0, 1)) ∧ (decode cX3_join 43 = .ok (.getfield 25, 3))))) ∧ ((((decode cX3_join 46 = .ok (.iload 4, 2)) ∧ (decode cX3_join 48 = .ok (.aload_n 0, 1))) ∧ ((decode cX3_join 49 = .ok (.getfield 25, 3)) ∧ (decode cX3_join 52 = .ok (.iload 4, 2)))) ∧ (((decode cX3_join 54 = .ok (.iaload, 1)) ∧ (decode cX3_join 55 = .ok (.iload_n 1, 1))) ∧ ((decode cX3_join 56 = .ok (.iload_n 2, 1)) ∧ (decode cX3_join 57 = .ok (.invokestatic 42, 3))))) := by first | decide +kernel | ((repeat' apply And.intro) <;> decide +kernel)
theorem dX3_join_33 : decode cX3_join 33 = .ok (.iload 4, 2) := dB_36_1_15.1.1.1.1
theorem dX3_join_35 : decode cX3_join 35 = .ok (.iaload, 1) := dB_36_1_15.1.1.1.2
theorem dX3_join_36 : decode cX3_join 36 = .ok (.iload_n 1, 1) := dB_36_1_15.1.1.2.1
theorem dX3_join_37 : decode cX3_join 37 = .ok (.iload_n 2, 1) := dB_36_1_15.1.1.2.2
theorem dX3_join_38 : decode cX3_join 38 = .ok (.invokestatic 42, 3) := dB_36_1_15.1.2.1.1
theorem dX3_join_41 : decode cX3_join 41 = .ok (.iastore, 1) := dB_36_1_15.1.2.1.2
theorem dX3_join_42 : decode cX3_join 42 = .ok (.aload_n 0, 1) := dB_36_1_15.1.2.2.1
theorem dX3_join_43 : decode cX3_join 43 = .ok (.getfield 25, 3) := dB_36_1_15.1.2.2.2
theorem dX3_join_46 : decode cX3_join 46 = .ok (.iload 4, 2) := dB_36_1_15.2.1.1.1
theorem dX3_join_48 : decode cX3_join 48 = .ok (.aload_n 0, 1) := dB_36_1_15.2.1.1.2
theorem dX3_join_49 : decode cX3_join 49 = .ok (.getfield 25, 3) := dB_36_1_15.2.1.2.1
theorem dX3_join_52 : decode cX3_join 52 = .ok (.iload 4, 2) := dB_36_1_15.2.1.2.2
theorem dX3_join_54 : decode cX3_join 54 = .ok (.iaload, 1) := dB_36_1_15.2.2.1.1
theorem dX3_join_55 : decode cX3_join 55 = .ok (.iload_n 1, 1) := dB_36_1_15.2.2.1.2
theorem dX3_join_56 : decode cX3_join 56 = .ok (.iload_n 2, 1) := dB_36_1_15.2.2.2.1
theorem dX3_join_57 : decode cX3_join 57 = .ok (.invokestatic 42, 3) := dB_36_1_15.2.2.2.2
theorem dB_36_1_16 : ((((decode cX3_join 60 = .ok (.iastore, 1)) ∧ (decode cX3_join 61 = .ok (.aload_n 0, 1))) ∧ ((decode cX3_join 62 = .ok (.getfield 22, 3)) ∧ (decode cX3_join 65 = .ok (.iload 4, 2)))) ∧ (((decode cX3_join 67 = .ok (.iaload, 1)) ∧ (decode cX3_join 68 = .ok (.aload_n 0, 1))) ∧ ((decode cX3_join 69 = .ok (.getfield 25, 3)) ∧ (decode cX3_join 72 = .ok (.iload 4, 2))))) ∧ ((((decode cX3_join 74 = .ok (.iaload, 1)) ∧ (decode cX3_join 75 = .ok (.if_icmp .ne 24, 3))) ∧ ((decode cX3_join 78 = .ok (.aload_n 0, 1)) ∧ (decode cX3_join 79 = .ok (.getfield 22, 3)))) ∧ (((decode cX3_join 82 = .ok (.iload 4, 2)) ∧ (decode cX3_join 84 = .ok (.bipush (-9), 2))) ∧ ((decode cX3_join 86 = .ok (.iastore, 1)) ∧ (decode cX3_join 87 = .ok (.aload_n 0, 1))))) := by first | decide +kernel | ((repeat' apply And.intro) <;> decide +kernel)
theorem dX3_join_60 : decode cX3_join 60 = .ok (.iastore, 1) := dB_36_1_16.1.1.1.1
theorem dX3_join_61 : decode cX3_join 61 = .ok (.aload_n 0, 1) := dB_36_1_16.1.1.1.2
theorem dX3_join_62 : decode cX3_join 62 = .ok (.getfield 22, 3) := dB_36_1_16.1.1.2.1
theorem dX3_join_65 : decode cX3_join 65 = .ok (.iload 4, 2) := dB_36_1_16.1.1.2.2
theorem dX3_join_67 : decode cX3_join 67 = .ok (.iaload, 1) := dB_36_1_16.1.2.1.1
theorem dX3_join_68 : decode cX3_join 68 = .ok (.aload_n 0, 1) := dB_36_1_16.1.2.1.2
theorem dX3_join_69 : decode cX3_join 69 = .ok (.getfield 25, 3) := dB_36_1_16.1.2.2.1
theorem dX3_join_72 : decode cX3_join 72 = .ok (.iload 4, 2) := dB_36_1_16.1.2.2.2
theorem dX3_join_74 : decode cX3_join 74 = .ok (.iaload, 1) := dB_36_1_16.2.1.1.1
theorem dX3_join_75 : decode cX3_join 75 = .ok (.if_icmp .ne 24, 3) := dB_36_1_16.2.1.1.2
theorem dX3_join_78 : decode cX3_join 78 = .ok (.aload_n 0, 1) := dB_36_1_16.2.1.2.1
theorem dX3_join_79 : decode cX3_join 79 = .ok (.getfield 22, 3) := dB_36_1_16.2.1.2.2
theorem dX3_join_82 : decode cX3_join 82 = .ok (.iload 4, 2) := dB_36_1_16.2.2.1.1
theorem dX3_join_84 : decode cX3_join 84 = .ok (.bipush (-9), 2) := dB_36_1_16.2.2.1.2
theorem dX3_join_86 : decode cX3_join 86 = .ok (.iastore, 1) := dB_36_1_16.2.2.2.1
theorem dX3_join_87 : decode cX3_join 87 = .ok (.aload_n 0, 1) := dB_36_1_16.2.2.2.2
theorem dB_36_1_17 : ((((decode cX3_join 88 = .ok (.getfield 25, 3)) ∧ (decode cX3_join 91 = .ok (.iload 4, 2))) ∧ ((decode cX3_join 93 = .ok (.bipush (-9), 2)) ∧ (decode cX3_join 95 = .ok (.iastore, 1)))) ∧ (((decode cX3_join 96 = .ok (.iinc 3 1, 3)) ∧ (decode cX3_join 99 = .ok (.iinc 4 1, 3))) ∧ ((decode cX3_join 102 = .ok (.goto (-97), 3)) ∧ (decode cX3_join 105 = .ok (.aload_n 0, 1))))) ∧ ((((decode cX3_join 106 = .ok (.dup, 1)) ∧ (decode cX3_join 107 = .ok (.getfield 9, 3))) ∧ ((decode cX3_join 110 = .ok (.iconst 1, 1)) ∧ (decode cX3_join 111 = .ok (.isub, 1)))) ∧ (((decode cX3_join 112 = .ok (.putfield 9, 3)) ∧ (decode cX3_join 115 = .ok (.iload_n 3, 1))) ∧ ((decode cX3_join 116 = .ok (.ireturn, 1)) ∧ (decode cX3_renumbered 0 = .ok (.iload_n 0, 1))))) := by first | decide +kernel | ((repeat' apply And.intro) <;> decide +kernel)
theorem dX3_join_88 : decode cX3_join 88 = .ok (.getfield 25, 3) := dB_36_1_17.1.1.1.1
theorem dX3_join_91 : decode cX3_join 91 = .ok (.iload 4, 2) := dB_36_1_17.1.1.1.2
theorem dX3_join_93 : decode cX3_join 93 = .ok (.bipush (-9), 2) := dB_36_1_17.1.1.2.1
theorem dX3_join_95 : decode cX3_join 95 = .ok (.iastore, 1) := dB_36_1_17.1.1.2.2
theorem dX3_join_96 : decode cX3_join 96 = .ok (.iinc 3 1, 3) := dB_36_1_17.1.2.1.1
theorem dX3_join_99 : decode cX3_join 99 = .ok (.iinc 4 1, 3) := dB_36_1_17.1.2.1.2
theorem dX3_join_102 : decode cX3_join 102 = .ok (.goto (-97), 3) := dB_36_1_17.1.2.2.1
theorem dX3_join_105 : decode cX3_join 105 = .ok (.aload_n 0, 1) := dB_36_1_17.1.2.2.2
theorem dX3_join_106 : decode cX3_join 106 = .ok (.dup, 1) := dB_36_1_17.2.1.1.1
theorem dX3_join_107 : decode cX3_join 107 = .ok (.getfield 9, 3) := dB_36_1_17.2.1.1.2
theorem dX3_join_110 : decode cX3_join 110 = .ok (.iconst 1, 1) := dB_36_1_17.2.1.2.1
theorem dX3_join_111 : decode cX3_join 111 = .ok (.isub, 1) := dB_36_1_17.2.1.2.2
theorem dX3_join_112 : decode cX3_join 112 = .ok (.putfield 9, 3) := dB_36_1_17.2.2.1.1
theorem dX3_join_115 : decode cX3_join 115 = .ok (.iload_n 3, 1) := dB_36_1_17.2.2.1.2
theorem dX3_join_116 : decode cX3_join 116 = .ok (.ireturn, 1) := dB_36_1_17.2.2.2.1
theorem dX3_renumbered_0 : decode cX3_renumbered 0 = .ok (.iload_n 0, 1) := dB_36_1_17.2.2.2.2
theorem dB_36_1_18 : ((((decode cX3_renumbered 1 = .ok (.iload_n 2, 1)) ∧ (decode cX3_renumbered 2 = .ok (.if_icmp .ne 5, 3))) ∧ ((decode cX3_renumbered 5 = .ok (.iload_n 1, 1)) ∧ (decode cX3_renumbered 6 = .ok (.ireturn, 1)))) ∧ (((decode cX3_renumbered 7 = .ok (.iload_n 0, 1)) ∧ (decode cX3_renumbered 8 = .ok (.iload_n 2, 1))) ∧ ((decode cX3_renumbered 9 = .ok (.if_icmp .le 9, 3)) ∧ (decode cX3_renumbered 12 = .ok (.iload_n 0, 1))))) ∧ ((((decode cX3_renumbered 13 = .ok (.iconst 1, 1)) ∧ (decode cX3_renumbered 14 = .ok (.isub, 1))) ∧ ((decode cX3_renumbered 15 = .ok (.goto 4, 3)) ∧ (decode cX3_renumbered 18 = .ok (.iload_n 0, 1)))) ∧ (((decode cX3_renumbered 19 = .ok (.ireturn, 1)) ∧ (decode cX3_become 0 = .ok (.aload_n 0, 1))) ∧ ((decode cX3_become 1 = .ok (.aload_n 1, 1)) ∧ (decode cX3_become 2 = .ok (.getfield 9, 3))))) := by first | decide +kernel | ((repeat' apply And.intro) <;> decide +kernel)
theorem dX3_renumbered_1 : decode cX3_renumbered 1 = .ok (.iload_n 2, 1) := dB_36_1_18.1.1.1.1
theorem dX3_renumbered_2 : decode cX3_renumbered 2 = .ok (.if_icmp .ne 5, 3) := dB_36_1_18.1.1.1.2
theorem dX3_renumbered_5 : decode cX3_renumbered 5 = .ok (.iload_n 1, 1) := dB_36_1_18.1.1.2.1
theorem dX3_renumbered_6 : decode cX3_renumbered 6 = .ok (.ireturn, 1) := dB_36_1_18.1.1.2.2
theorem dX3_renumbered_7 : decode cX3_renumbered 7 = .ok (.iload_n 0, 1) := dB_36_1_18.1.2.1.1
theorem dX3_renumbered_8 : decode cX3_renumbered 8 = .ok (.iload_n 2, 1) := dB_36_1_18.1.2.1.2
theorem dX3_renumbered_9 : decode cX3_renumbered 9 = .ok (.if_icmp .le 9, 3) := dB_36_1_18.1.2.2.1
theorem dX3_renumbered_12 : decode cX3_renumbered 12 = .ok (.iload_n 0, 1) := dB_36_1_18.1.2.2.2
theorem dX3_renumbered_13 : decode cX3_renumbered 13 = .ok (.iconst 1, 1) := dB_36_1_18.2.1.1.1
theorem dX3_renumbered_14 : decode cX3_renumbered 14 = .ok (.isub, 1) := dB_36_1_18.2.1.1.2
theorem dX3_renumbered_15 : decode cX3_renumbered 15 = .ok (.goto 4, 3) := dB_36_1_18.2.1.2.1
theorem dX3_renumbered_18 : decode cX3_renumbered 18 = .ok (.iload_n 0, 1) := dB_36_1_18.2.1.2.2
theorem dX3_renumbered_19 : decode cX3_renumbered 19 = .ok (.ireturn, 1) := dB_36_1_18.2.2.1.1
theorem dX3_become_0 : decode cX3_become 0 = .ok (.aload_n 0, 1) := dB_36_1_18.2.2.1.2
theorem dX3_become_1 : decode cX3_become 1 = .ok (.aload_n 1, 1) := dB_36_1_18.2.2.2.1
theorem dX3_become_2 : decode cX3_become 2 = .ok (.getfield 9, 3) := dB_36_1_18.2.2.2.2
theorem dB_36_1_19 : ((((decode cX3_become 5 = .ok (.putfield 9, 3)) ∧ (decode cX3_become 8 = .ok (.aload_n 0, 1))) ∧ ((decode cX3_become 9 = .ok (.aload_n 1, 1)) ∧ (decode cX3_become 10 = .ok (.getfield 15, 3)))) ∧ (((decode cX3_become 13 = .ok (.putfield 15, 3)) ∧ (decode cX3_become 16 = .ok (.aload_n 1, 1))) ∧ ((decode cX3_become 17 = .ok (.getfield 18, 3)) ∧ (decode cX3_become 20 = .ok (.iconst 0, 1))))) ∧ ((((decode cX3_become 21 = .ok (.aload_n 0, 1)) ∧ (decode cX3_become 22 = .ok (.getfield 18, 3))) ∧ ((decode cX3_become 25 = .ok (.iconst 0, 1)) ∧ (decode cX3_become 26 = .ok (.aload_n 0, 1)))) ∧ (((decode cX3_become 27 = .ok (.getfield 15, 3)) ∧ (decode cX3_become 30 = .ok (.invokestatic 46, 3))) ∧ ((decode cX3_become 33 = .ok (.aload_n 1, 1)) ∧ (decode cX3_become 34 = .ok (.getfield 22, 3))))) := by first | decide +kernel | ((repeat' apply And.intro) <;> decide +kernel)
theorem dX3_become_5 : decode cX3_become 5 = .ok (.putfield 9, 3) := dB_36_1_19.1.1.1.1
theorem dX3_become_8 : decode cX3_become 8 = .ok (.aload_n 0, 1) := dB_36_1_19.1.1.1.2
theorem dX3_become_9 : decode cX3_become 9 = .ok (.aload_n 1, 1) := dB_36_1_19.1.1.2.1
theorem dX3_become_10 : decode cX3_become 10 = .ok (.getfield 15, 3) := dB_36_1_19.1.1.2.2
theorem dX3_become_13 : decode cX3_become 13 = .ok (.putfield 15, 3) := dB_36_1_19.1.2.1.1
theorem dX3_become_16 : decode cX3_become 16 = .ok (.aload_n 1, 1) := dB_36_1_19.1.2.1.2
theorem dX3_become_17 : decode cX3_become 17 = .ok (.getfield 18, 3) := dB_36_1_19.1.2.2.1
theorem dX3_become_20 : decode cX3_become 20 = .ok (.iconst 0, 1) := dB_36_1_19.1.2.2.2
theorem dX3_become_21 : decode cX3_become 21 = .ok (.aload_n 0, 1) := dB_36_1_19.2.1.1.1
theorem dX3_become_22 : decode cX3_become 22 = .ok (.getfield 18, 3) := dB_36_1_19.2.1.1.2
theorem dX3_become_25 : decode cX3_become 25 = .ok (.iconst 0, 1) := dB_36_1_19.2.1.2.1
theorem dX3_become_26 : decode cX3_become 26 = .ok (.aload_n 0, 1) := dB_36_1_19.2.1.2.2
theorem dX3_become_27 : decode cX3_become 27 = .ok (.getfield 15, 3) := dB_36_1_19.2.2.1.1
theorem dX3_become_30 : decode cX3_become 30 = .ok (.invokestatic 46, 3) := dB_36_1_19.2.2.1.2
theorem dX3_become_33 : decode cX3_become 33 = .ok (.aload_n 1, 1) := dB_36_1_19.2.2.2.1
theorem dX3_become_34 : decode cX3_become 34 = .ok (.getfield 22, 3) := dB_36_1_19.2.2.2.2
theorem dB_36_1_20 : ((((decode cX3_become 37 = .ok (.iconst 0, 1)) ∧ (decode cX3_become 38 = .ok (.aload_n 0, 1))) ∧ ((decode cX3_become 39 = .ok (.getfield 22, 3)) ∧ (decode cX3_become 42 = .ok (.iconst 0, 1)))) ∧ (((decode cX3_become 43 = .ok (.aload_n 0, 1)) ∧ (decode cX3_become 44 = .ok (.getfield 15, 3))) ∧ ((decode cX3_become 47 = .ok (.invokestatic 46, 3)) ∧ (decode cX3_become 50 = .ok (.aload_n 1, 1))))) ∧ ((((decode cX3_become 51 = .ok (.getfield 25, 3)) ∧ (decode cX3_become 54 = .ok (.iconst 0, 1))) ∧ ((decode cX3_become 55 = .ok (.aload_n 0, 1)) ∧ (decode cX3_become 56 = .ok (.getfield 25, 3)))) ∧ (((decode cX3_become 59 = .ok (.iconst 0, 1)) ∧ (decode cX3_become 60 = .ok (.aload_n 0, 1))) ∧ ((decode cX3_become 61 = .ok (.getfield 15, 3)) ∧ (decode cX3_become 64 = .ok (.invokestatic 46, 3))))) := by first | decide +kernel | ((repeat' apply And.intro) <;> decide +kernel)
theorem dX3_become_37 : decode cX3_become 37 = .ok (.iconst 0, 1) := dB_36_1_20.1.1.1.1
theorem dX3_become_38 : decode cX3_become 38 = .ok (.aload_n 0, 1) := dB_36_1_20.1.1.1.2
theorem dX3_become_39 : decode cX3_become 39 = .ok (.getfield 22, 3) := dB_36_1_20.1.1.2.1
theorem dX3_become_42 : decode cX3_become 42 = .ok (.iconst 0, 1) := dB_36_1_20.1.1.2.2
theorem dX3_become_43 : decode cX3_become 43 = .ok (.aload_n 0, 1) := dB_36_1_20.1.2.1.1
theorem dX3_become_44 : decode cX3_become 44 = .ok (.getfield 15, 3) := dB_36_1_20.1.2.1.2
theorem dX3_become_47 : decode cX3_become 47 = .ok (.invokestatic 46, 3) := dB_36_1_20.1.2.2.1
theorem dX3_become_50 : decode cX3_become 50 = .ok (.aload_n 1, 1) := dB_36_1_20.1.2.2.2
theorem dX3_become_51 : decode cX3_become 51 = .ok (.getfield 25, 3) := dB_36_1_20.2.1.1.1
theorem dX3_become_54 : decode cX3_become 54 = .ok (.iconst 0, 1) := dB_36_1_20.2.1.1.2
theorem dX3_become_55 : decode cX3_become 55 = .ok (.aload_n 0, 1) := dB_36_1_20.2.1.2.1
theorem dX3_become_56 : decode cX3_become 56 = .ok (.getfield 25, 3) := dB_36_1_20.2.1.2.2
theorem dX3_become_59 : decode cX3_become 59 = .ok (.iconst 0, 1) := dB_36_1_20.2.2.1.1
theorem dX3_become_60 : decode cX3_become 60 = .ok (.aload_n 0, 1) := dB_36_1_20.2.2.1.2
theorem dX3_become_61 : decode cX3_become 61 = .ok (.getfield 15, 3) := dB_36_1_20.2.2.2.1
theorem dX3_become_64 : decode cX3_become 64 = .ok (.invokestatic 46, 3) := dB_36_1_20.2.2.2.2
theorem dB_36_1_21 : ((((decode cX3_become 67 = .ok (.aload_n 1, 1)) ∧ (decode cX3_become 68 = .ok (.getfield 28, 3))) ∧ ((decode cX3_become 71 = .ok (.iconst 0, 1)) ∧ (decode cX3_become 72 = .ok (.aload_n 0, 1)))) ∧ (((decode cX3_become 73 = .ok (.getfield 28, 3)) ∧ (decode cX3_become 76 = .ok (.iconst 0, 1))) ∧ ((decode cX3_become 77 = .ok (.aload_n 0, 1)) ∧ (decode cX3_become 78 = .ok (.getfield 15, 3))))) ∧ ((((decode cX3_become 81 = .ok (.invokestatic 46, 3)) ∧ (decode cX3_become 84 = .ok (.aload_n 1, 1))) ∧ ((decode cX3_become 85 = .ok (.getfield 31, 3)) ∧ (decode cX3_become 88 = .ok (.iconst 0, 1)))) ∧ (((decode cX3_become 89 = .ok (.aload_n 0, 1)) ∧ (decode cX3_become 90 = .ok (.getfield 31, 3))) ∧ ((decode cX3_become 93 = .ok (.iconst 0, 1)) ∧ (decode cX3_become 94 = .ok (.aload_n 0, 1))))) := by first | decide +kernel | ((repeat' apply And.intro) <;> decide +kernel)
theorem dX3_become_67 : decode cX3_become 67 = .ok (.aload_n 1, 1) := dB_36_1_21.1.1.1.1
theorem dX3_become_68 : decode cX3_become 68 = .ok (.getfield 28, 3) := dB_36_1_21.1.1.1.2
theorem dX3_become_71 : decode cX3_become 71 = .ok (.iconst 0, 1) := dB_36_1_21.1.1.2.1
theorem dX3_become_72 : decode cX3_become 72 = .ok (.aload_n 0, 1) := dB_36_1_21.1.1.2.2
theorem dX3_become_73 : decode cX3_become 73 = .ok (.getfield 28, 3) := dB_36_1_21.1.2.1.1
theorem dX3_become_76 : decode cX3_become 76 = .ok (.iconst 0, 1) := dB_36_1_21.1.2.1.2
theorem dX3_become_77 : decode cX3_become 77 = .ok (.aload_n 0, 1) := dB_36_1_21.1.2.2.1
theorem dX3_become_78 : decode cX3_become 78 = .ok (.getfield 15, 3) := dB_36_1_21.1.2.2.2
theorem dX3_become_81 : decode cX3_become 81 = .ok (.invokestatic 46, 3) := dB_36_1_21.2.1.1.1
theorem dX3_become_84 : decode cX3_become 84 = .ok (.aload_n 1, 1) := dB_36_1_21.2.1.1.2
theorem dX3_become_85 : decode cX3_become 85 = .ok (.getfield 31, 3) := dB_36_1_21.2.1.2.1
theorem dX3_become_88 : decode cX3_become 88 = .ok (.iconst 0, 1) := dB_36_1_21.2.1.2.2
theorem dX3_become_89 : decode cX3_become 89 = .ok (.aload_n 0, 1) := dB_36_1_21.2.2.1.1
theorem dX3_become_90 : decode cX3_become 90 = .ok (.getfield 31, 3) := dB_36_1_21.2.2.1.2
theorem dX3_become_93 : decode cX3_become 93 = .ok (.iconst 0, 1) := dB_36_1_21.2.2.2.1
theorem dX3_become_94 : decode cX3_become 94 = .ok (.aload_n 0, 1) := dB_36_1_21.2.2.2.2
theorem dB_36_1_22 : ((((decode cX3_become 95 = .ok (.getfield 15, 3)) ∧ (decode cX3_become 98 = .ok (.invokestatic 46, 3))) ∧ ((decode cX3_become 101 = .ok (.return_, 1)) ∧ (decode cX4_init 0 = .ok (.aload_n 0, 1)))) ∧ (((decode cX4_init 1 = .ok (.invokespecial 3, 3)) ∧ (decode cX4_init 4 = .ok (.aload_n 0, 1))) ∧ ((decode cX4_init 5 = .ok (.iconst 0, 1)) ∧ (decode cX4_init 6 = .ok (.putfield 9, 3))))) ∧ ((((decode cX4_init 9 = .ok (.aload_n 0, 1)) ∧ (decode cX4_init 10 = .ok (.bipush (-9), 2))) ∧ ((decode cX4_init 12 = .ok (.putfield 15, 3)) ∧ (decode cX4_init 15 = .ok (.aload_n 0, 1)))) ∧ (((decode cX4_init 16 = .ok (.bipush 6, 2)) ∧ (decode cX4_init 18 = .ok (.newarray .int, 2))) ∧ ((decode cX4_init 20 = .ok (.putfield 18, 3)) ∧ (decode cX4_init 23 = .ok (.aload_n 0, 1))))) := by first | decide +kernel | ((repeat' apply And.intro) <;> decide +kernel)
theorem dX3_become_95 : decode cX3_become 95 = .ok (.getfield 15, 3) := dB_36_1_22.1.1.1.1
theorem dX3_become_98 : decode cX3_become 98 = .ok (.invokestatic 46, 3) := dB_36_1_22.1.1.1.2
theorem dX3_become_101 : decode cX3_become 101 = .ok (.return_, 1) := dB_36_1_22.1.1.2.1
theorem dX4_init_0 : decode cX4_init 0 = .ok (.aload_n 0, 1) := dB_36_1_22.1.1.2.2
theorem dX4_init_1 : decode cX4_init 1 = .ok (.invokespecial 3, 3) := dB_36_1_22.1.2.1.1
theorem dX4_init_4 : decode cX4_init 4 = .ok (.aload_n 0, 1) := dB_36_1_22.1.2.1.2
theorem dX4_init_5 : decode cX4_init 5 = .ok (.iconst 0, 1) := dB_36_1_22.1.2.2.1
theorem dX4_init_6 : decode cX4_init 6 = .ok (.putfield 9, 3) := dB_36_1_22.1.2.2.2
theorem dX4_init_9 : decode cX4_init 9 = .ok (.aload_n 0, 1) := dB_36_1_22.2.1.1.1
theorem dX4_init_10 : decode cX4_init 10 = .ok (.bipush (-9), 2) := dB_36_1_22.2.1.1.2
theorem dX4_init_12 : decode cX4_init 12 = .ok (.putfield 15, 3) := dB_36_1_22.2.1.2.1
theorem dX4_init_15 : decode cX4_init 15 = .ok (.aload_n 0, 1) := dB_36_1_22.2.1.2.2
theorem dX4_init_16 : decode cX4_init 16 = .ok (.bipush 6, 2) := dB_36_1_22.2.2.1.1
theorem dX4_init_18 : decode cX4_init 18 = .ok (.newarray .int, 2) := dB_36_1_22.2.2.1.2
theorem dX4_init_20 : decode cX4_init 20 = .ok (.putfield 18, 3) := dB_36_1_22.2.2.2.1
theorem dX4_init_23 : decode cX4_init 23 = .ok (.aload_n 0, 1) := dB_36_1_22.2.2.2.2
theorem dB_36_1_23 : ((((decode cX4_init 24 = .ok (.bipush 30, 2)) ∧ (decode cX4_init 26 = .ok (.newarray .long, 2))) ∧ ((decode cX4_init 28 = .ok (.putfield 22, 3)) ∧ (decode cX4_init 31 = .ok (.return_, 1)))) ∧ (((decode cX4_isThere 0 = .ok (.aload_n 0, 1)) ∧ (decode cX4_isThere 1 = .ok (.getfield 15, 3))) ∧ ((decode cX4_isThere 4 = .ok (.bipush (-9), 2)) ∧ (decode cX4_isThere 6 = .ok (.if_icmp .eq 7, 3))))) ∧ ((((decode cX4_isThere 9 = .ok (.iconst 1, 1)) ∧ (decode cX4_isThere 10 = .ok (.goto 4, 3))) ∧ ((decode cX4_isThere 13 = .ok (.iconst 0, 1)) ∧ (decode cX4_isThere 14 = .ok (.ireturn, 1)))) ∧ (((decode cX4_hasRow 0 = .ok (.iload_n 1, 1)) ∧ (decode cX4_hasRow 1 = .ok (.ifCond .lt 15, 3))) ∧ ((decode cX4_hasRow 4 = .ok (.iload_n 1, 1)) ∧ (decode cX4_hasRow 5 = .ok (.aload_n 0, 1))))) := by first | decide +kernel | ((repeat' apply And.intro) <;> decide +kernel)
theorem dX4_init_24 : decode cX4_init 24 = .ok (.bipush 30, 2) := dB_36_1_23.1.1.1.1
theorem dX4_init_26 : decode cX4_init 26 = .ok (.newarray .long, 2) := dB_36_1_23.1.1.1.2
theorem dX4_init_28 : decode cX4_init 28 = .ok (.putfield 22, 3) := dB_36_1_23.1.1.2.1
theorem dX4_init_31 : decode cX4_init 31 = .ok (.return_, 1) := dB_36_1_23.1.1.2.2
theorem dX4_isThere_0 : decode cX4_isThere 0 = .ok (.aload_n 0, 1) := dB_36_1_23.1.2.1.1
theorem dX4_isThere_1 : decode cX4_isThere 1 = .ok (.getfield 15, 3) := dB_36_1_23.1.2.1.2
theorem dX4_isThere_4 : decode cX4_isThere 4 = .ok (.bipush (-9), 2) := dB_36_1_23.1.2.2.1
theorem dX4_isThere_6 : decode cX4_isThere 6 = .ok (.if_icmp .eq 7, 3) := dB_36_1_23.1.2.2.2
theorem dX4_isThere_9 : decode cX4_isThere 9 = .ok (.iconst 1, 1) := dB_36_1_23.2.1.1.1
theorem dX4_isThere_10 : decode cX4_isThere 10 = .ok (.goto 4, 3) := dB_36_1_23.2.1.1.2
theorem dX4_isThere_13 : decode cX4_isThere 13 = .ok (.iconst 0, 1) := dB_36_1_23.2.1.2.1
theorem dX4_isThere_14 : decode cX4_isThere 14 = .ok (.ireturn, 1) := dB_36_1_23.2.1.2.2
theorem dX4_hasRow_0 : decode cX4_hasRow 0 = .ok (.iload_n 1, 1) := dB_36_1_23.2.2.1.1
theorem dX4_hasRow_1 : decode cX4_hasRow 1 = .ok (.ifCond .lt 15, 3) := dB_36_1_23.2.2.1.2
theorem dX4_hasRow_4 : decode cX4_hasRow 4 = .ok (.iload_n 1, 1) := dB_36_1_23.2.2.2.1
theorem dX4_hasRow_5 : decode cX4_hasRow 5 = .ok (.aload_n 0, 1) := dB_36_1_23.2.2.2.2
theorem dB_36_1_24 : ((((decode cX4_hasRow 6 = .ok (.getfield 15, 3)) ∧ (decode cX4_hasRow 9 = .ok (.if_icmp .ge 7, 3))) ∧ ((decode cX4_hasRow 12 = .ok (.iconst 1, 1)) ∧ (decode cX4_hasRow 13 = .ok (.goto 4, 3)))) ∧ (((decode cX4_hasRow 16 = .ok (.iconst 0, 1)) ∧ (decode cX4_hasRow 17 = .ok (.ireturn, 1))) ∧ ((decode cX4_begin 0 = .ok (.aload_n 0, 1)) ∧ (decode cX4_begin 1 = .ok (.iload_n 1, 1))))) ∧ ((((decode cX4_begin 2 = .ok (.putfield 9, 3)) ∧ (decode cX4_begin 5 = .ok (.aload_n 0, 1))) ∧ ((decode cX4_begin 6 = .ok (.iload_n 2, 1)) ∧ (decode cX4_begin 7 = .ok (.putfield 15, 3)))) ∧ (((decode cX4_begin 10 = .ok (.aload_n 0, 1)) ∧ (decode cX4_begin 11 = .ok (.getfield 18, 3))) ∧ ((decode cX4_begin 14 = .ok (.bipush (-9), 2)) ∧ (decode cX4_begin 16 = .ok (.invokestatic 26, 3))))) := by first | decide +kernel | ((repeat' apply And.intro) <;> decide +kernel)
theorem dX4_hasRow_6 : decode cX4_hasRow 6 = .ok (.getfield 15, 3) := dB_36_1_24.1.1.1.1
theorem dX4_hasRow_9 : decode cX4_hasRow 9 = .ok (.if_icmp .ge 7, 3) := dB_36_1_24.1.1.1.2
theorem dX4_hasRow_12 : decode cX4_hasRow 12 = .ok (.iconst 1, 1) := dB_36_1_24.1.1.2.1
theorem dX4_hasRow_13 : decode cX4_hasRow 13 = .ok (.goto 4, 3) := dB_36_1_24.1.1.2.2
theorem dX4_hasRow_16 : decode cX4_hasRow 16 = .ok (.iconst 0, 1) := dB_36_1_24.1.2.1.1
theorem dX4_hasRow_17 : decode cX4_hasRow 17 = .ok (.ireturn, 1) := dB_36_1_24.1.2.1.2
theorem dX4_begin_0 : decode cX4_begin 0 = .ok (.aload_n 0, 1) := dB_36_1_24.1.2.2.1
theorem dX4_begin_1 : decode cX4_begin 1 = .ok (.iload_n 1, 1) := dB_36_1_24.1.2.2.2
theorem dX4_begin_2 : decode cX4_begin 2 = .ok (.putfield 9, 3) := dB_36_1_24.2.1.1.1
theorem dX4_begin_5 : decode cX4_begin 5 = .ok (.aload_n 0, 1) := dB_36_1_24.2.1.1.2
theorem dX4_begin_6 : decode cX4_begin 6 = .ok (.iload_n 2, 1) := dB_36_1_24.2.1.2.1
theorem dX4_begin_7 : decode cX4_begin 7 = .ok (.putfield 15, 3) := dB_36_1_24.2.1.2.2
theorem dX4_begin_10 : decode cX4_begin 10 = .ok (.aload_n 0, 1) := dB_36_1_24.2.2.1.1
theorem dX4_begin_11 : decode cX4_begin 11 = .ok (.getfield 18, 3) := dB_36_1_24.2.2.1.2
theorem dX4_begin_14 : decode cX4_begin 14 = .ok (.bipush (-9), 2) := dB_36_1_24.2.2.2.1
theorem dX4_begin_16 : decode cX4_begin 16 = .ok (.invokestatic 26, 3) := dB_36_1_24.2.2.2.2
theorem dB_36_1_25 : ((((decode cX4_begin 19 = .ok (.return_, 1)) ∧ (decode cX4_beginRow 0 = .ok (.aload_n 0, 1))) ∧ ((decode cX4_beginRow 1 = .ok (.getfield 18, 3)) ∧ (decode cX4_beginRow 4 = .ok (.iload_n 1, 1)))) ∧ (((decode cX4_beginRow 5 = .ok (.iload_n 2, 1)) ∧ (decode cX4_beginRow 6 = .ok (.iastore, 1))) ∧ ((decode cX4_beginRow 7 = .ok (.iconst 0, 1)) ∧ (decode cX4_beginRow 8 = .ok (.istore_n 3, 1))))) ∧ ((((decode cX4_beginRow 9 = .ok (.iload_n 3, 1)) ∧ (decode cX4_beginRow 10 = .ok (.iconst 5, 1))) ∧ ((decode cX4_beginRow 11 = .ok (.if_icmp .ge 20, 3)) ∧ (decode cX4_beginRow 14 = .ok (.aload_n 0, 1)))) ∧ (((decode cX4_beginRow 15 = .ok (.getfield 22, 3)) ∧ (decode cX4_beginRow 18 = .ok (.iload_n 1, 1))) ∧ ((decode cX4_beginRow 19 = .ok (.iconst 5, 1)) ∧ (decode cX4_beginRow 20 = .ok (.imul, 1))))) := by first | decide +kernel | ((repeat' apply And.intro) <;> decide +kernel)
theorem dX4_begin_19 : decode cX4_begin 19 = .ok (.return_, 1) := dB_36_1_25.1.1.1.1
theorem dX4_beginRow_0 : decode cX4_beginRow 0 = .ok (.aload_n 0, 1) := dB_36_1_25.1.1.1.2
theorem dX4_beginRow_1 : decode cX4_beginRow 1 = .ok (.getfield 18, 3) := dB_36_1_25.1.1.2.1
theorem dX4_beginRow_4 : decode cX4_beginRow 4 = .ok (.iload_n 1, 1) := dB_36_1_25.1.1.2.2
theorem dX4_beginRow_5 : decode cX4_beginRow 5 = .ok (.iload_n 2, 1) := dB_36_1_25.1.2.1.1
theorem dX4_beginRow_6 : decode cX4_beginRow 6 = .ok (.iastore, 1) := dB_36_1_25.1.2.1.2
theorem dX4_beginRow_7 : decode cX4_beginRow 7 = .ok (.iconst 0, 1) := dB_36_1_25.1.2.2.1
theorem dX4_beginRow_8 : decode cX4_beginRow 8 = .ok (.istore_n 3, 1) := dB_36_1_25.1.2.2.2
theorem dX4_beginRow_9 : decode cX4_beginRow 9 = .ok (.iload_n 3, 1) := dB_36_1_25.2.1.1.1
theorem dX4_beginRow_10 : decode cX4_beginRow 10 = .ok (.iconst 5, 1) := dB_36_1_25.2.1.1.2
theorem dX4_beginRow_11 : decode cX4_beginRow 11 = .ok (.if_icmp .ge 20, 3) := dB_36_1_25.2.1.2.1
theorem dX4_beginRow_14 : decode cX4_beginRow 14 = .ok (.aload_n 0, 1) := dB_36_1_25.2.1.2.2
theorem dX4_beginRow_15 : decode cX4_beginRow 15 = .ok (.getfield 22, 3) := dB_36_1_25.2.2.1.1
theorem dX4_beginRow_18 : decode cX4_beginRow 18 = .ok (.iload_n 1, 1) := dB_36_1_25.2.2.1.2
theorem dX4_beginRow_19 : decode cX4_beginRow 19 = .ok (.iconst 5, 1) := dB_36_1_25.2.2.2.1
theorem dX4_beginRow_20 : decode cX4_beginRow 20 = .ok (.imul, 1) := dB_36_1_25.2.2.2.2
theorem dB_36_1_26 : ((((decode cX4_beginRow 21 = .ok (.iload_n 3, 1)) ∧ (decode cX4_beginRow 22 = .ok (.iadd, 1))) ∧ ((decode cX4_beginRow 23 = .ok (.lconst 0, 1)) ∧ (decode cX4_beginRow 24 = .ok (.lastore, 1)))) ∧ (((decode cX4_beginRow 25 = .ok (.iinc 3 1, 3)) ∧ (decode cX4_beginRow 28 = .ok (.goto (-19), 3))) ∧ ((decode cX4_beginRow 31 = .ok (.return_, 1)) ∧ (decode cX4_store 0 = .ok (.lload_n 3, 1))))) ∧ ((((decode cX4_store 1 = .ok (.lstore 5, 2)) ∧ (decode cX4_store 3 = .ok (.aload_n 0, 1))) ∧ ((decode cX4_store 4 = .ok (.getfield 9, 3)) ∧ (decode cX4_store 7 = .ok (.ifCond .ne 12, 3)))) ∧ (((decode cX4_store 10 = .ok (.lload_n 3, 1)) ∧ (decode cX4_store 11 = .ok (.l2i, 1))) ∧ ((decode cX4_store 12 = .ok (.i2s, 1)) ∧ (decode cX4_store 13 = .ok (.i2l, 1))))) := by first | decide +kernel | ((repeat' apply And.intro) <;> decide +kernel)
theorem dX4_beginRow_21 : decode cX4_beginRow 21 = .ok (.iload_n 3, 1) := dB_36_1_26.1.1.1.1
theorem dX4_beginRow_22 : decode cX4_beginRow 22 = .ok (.iadd, 1) := dB_36_1_26.1.1.1.2
theorem dX4_beginRow_23 : decode cX4_beginRow 23 = .ok (.lconst 0, 1) := dB_36_1_26.1.1.2.1
theorem dX4_beginRow_24 : decode cX4_beginRow 24 = .ok (.lastore, 1) := dB_36_1_26.1.1.2.2
theorem dX4_beginRow_25 : decode cX4_beginRow 25 = .ok (.iinc 3 1, 3) := dB_36_1_26.1.2.1.1
theorem dX4_beginRow_28 : decode cX4_beginRow 28 = .ok (.goto (-19), 3) := dB_36_1_26.1.2.1.2
theorem dX4_beginRow_31 : decode cX4_beginRow 31 = .ok (.return_, 1) := dB_36_1_26.1.2.2.1
theorem dX4_store_0 : decode cX4_store 0 = .ok (.lload_n 3, 1) := dB_36_1_26.1.2.2.2
theorem dX4_store_1 : decode cX4_store 1 = .ok (.lstore 5, 2) := dB_36_1_26.2.1.1.1
theorem dX4_store_3 : decode cX4_store 3 = .ok (.aload_n 0, 1) := dB_36_1_26.2.1.1.2
theorem dX4_store_4 : decode cX4_store 4 = .ok (.getfield 9, 3) := dB_36_1_26.2.1.2.1
theorem dX4_store_7 : decode cX4_store 7 = .ok (.ifCond .ne 12, 3) := dB_36_1_26.2.1.2.2
theorem dX4_store_10 : decode cX4_store 10 = .ok (.lload_n 3, 1) := dB_36_1_26.2.2.1.1
theorem dX4_store_11 : decode cX4_store 11 = .ok (.l2i, 1) := dB_36_1_26.2.2.1.2
theorem dX4_store_12 : decode cX4_store 12 = .ok (.i2s, 1) := dB_36_1_26.2.2.2.1
theorem dX4_store_13 : decode cX4_store 13 = .ok (.i2l, 1) := dB_36_1_26.2.2.2.2
theorem dB_36_1_27 : ((((decode cX4_store 14 = .ok (.lstore 5, 2)) ∧ (decode cX4_store 16 = .ok (.goto 16, 3))) ∧ ((decode cX4_store 19 = .ok (.aload_n 0, 1)) ∧ (decode cX4_store 20 = .ok (.getfield 9, 3)))) ∧ (((decode cX4_store 23 = .ok (.iconst 1, 1)) ∧ (decode cX4_store 24 = .ok (.if_icmp .ne 8, 3))) ∧ ((decode cX4_store 27 = .ok (.lload_n 3, 1)) ∧ (decode cX4_store 28 = .ok (.l2i, 1))))) ∧ ((((decode cX4_store 29 = .ok (.i2l, 1)) ∧ (decode cX4_store 30 = .ok (.lstore 5, 2))) ∧ ((decode cX4_store 32 = .ok (.aload_n 0, 1)) ∧ (decode cX4_store 33 = .ok (.getfield 22, 3)))) ∧ (((decode cX4_store 36 = .ok (.iload_n 1, 1)) ∧ (decode cX4_store 37 = .ok (.iconst 5, 1))) ∧ ((decode cX4_store 38 = .ok (.imul, 1)) ∧ (decode cX4_store 39 = .ok (.iload_n 2, 1))))) := by first | decide +kernel | ((repeat' apply And.intro) <;> decide +kernel)
theorem dX4_store_14 : decode cX4_store 14 = .ok (.lstore 5, 2) := dB_36_1_27.1.1.1.1
theorem dX4_store_16 : decode cX4_store 16 = .ok (.goto 16, 3) := dB_36_1_27.1.1.1.2
theorem dX4_store_19 : decode cX4_store 19 = .ok (.aload_n 0, 1) := dB_36_1_27.1.1.2.1
theorem dX4_store_20 : decode cX4_store 20 = .ok (.getfield 9, 3) := dB_36_1_27.1.1.2.2
theorem dX4_store_23 : decode cX4_store 23 = .ok (.iconst 1, 1) := dB_36_1_27.1.2.1.1
theorem dX4_store_24 : decode cX4_store 24 = .ok (.if_icmp .ne 8, 3) := dB_36_1_27.1.2.1.2
theorem dX4_store_27 : decode cX4_store 27 = .ok (.lload_n 3, 1) := dB_36_1_27.1.2.2.1
theorem dX4_store_28 : decode cX4_store 28 = .ok (.l2i, 1) := dB_36_1_27.1.2.2.2
theorem dX4_store_29 : decode cX4_store 29 = .ok (.i2l, 1) := dB_36_1_27.2.1.1.1
theorem dX4_store_30 : decode cX4_store 30 = .ok (.lstore 5, 2) := dB_36_1_27.2.1.1.2
theorem dX4_store_32 : decode cX4_store 32 = .ok (.aload_n 0, 1) := dB_36_1_27.2.1.2.1
theorem dX4_store_33 : decode cX4_store 33 = .ok (.getfield 22, 3) := dB_36_1_27.2.1.2.2
theorem dX4_store_36 : decode cX4_store 36 = .ok (.iload_n 1, 1) := dB_36_1_27.2.2.1.1
theorem dX4_store_37 : decode cX4_store 37 = .ok (.iconst 5, 1) := dB_36_1_27.2.2.1.2
theorem dX4_store_38 : decode cX4_store 38 = .ok (.imul, 1) := dB_36_1_27.2.2.2.1
theorem dX4_store_39 : decode cX4_store 39 = .ok (.iload_n 2, 1) := dB_36_1_27.2.2.2.2
theorem dB_36_1_28 : ((((decode cX4_store 40 = .ok (.iadd, 1)) ∧ (decode cX4_store 41 = .ok (.lload 5, 2))) ∧ ((decode cX4_store 43 = .ok (.lastore, 1)) ∧ (decode cX4_store 44 = .ok (.return_, 1)))) ∧ (((decode cX4_number 0 = .ok (.aload_n 0, 1)) ∧ (decode cX4_number 1 = .ok (.getfield 22, 3))) ∧ ((decode cX4_number 4 = .ok (.iload_n 1, 1)) ∧ (decode cX4_number 5 = .ok (.iconst 5, 1))))) ∧ ((((decode cX4_number 6 = .ok (.imul, 1)) ∧ (decode cX4_number 7 = .ok (.iload_n 2, 1))) ∧ ((decode cX4_number 8 = .ok (.iadd, 1)) ∧ (decode cX4_number 9 = .ok (.laload, 1)))) ∧ (((decode cX4_number 10 = .ok (.lreturn, 1)) ∧ (decode cX4_whole 0 = .ok (.aload_n 0, 1))) ∧ ((decode cX4_whole 1 = .ok (.iload_n 1, 1)) ∧ (decode cX4_whole 2 = .ok (.iload_n 2, 1))))) := by first | decide +kernel | ((repeat' apply And.intro) <;> decide +kernel)
theorem dX4_store_40 : decode cX4_store 40 = .ok (.iadd, 1) := dB_36_1_28.1.1.1.1
theorem dX4_store_41 : decode cX4_store 41 = .ok (.lload 5, 2) := dB_36_1_28.1.1.1.2
theorem dX4_store_43 : decode cX4_store 43 = .ok (.lastore, 1) := dB_36_1_28.1.1.2.1
theorem dX4_store_44 : decode cX4_store 44 = .ok (.return_, 1) := dB_36_1_28.1.1.2.2
theorem dX4_number_0 : decode cX4_number 0 = .ok (.aload_n 0, 1) := dB_36_1_28.1.2.1.1
theorem dX4_number_1 : decode cX4_number 1 = .ok (.getfield 22, 3) := dB_36_1_28.1.2.1.2
theorem dX4_number_4 : decode cX4_number 4 = .ok (.iload_n 1, 1) := dB_36_1_28.1.2.2.1
theorem dX4_number_5 : decode cX4_number 5 = .ok (.iconst 5, 1) := dB_36_1_28.1.2.2.2
theorem dX4_number_6 : decode cX4_number 6 = .ok (.imul, 1) := dB_36_1_28.2.1.1.1
theorem dX4_number_7 : decode cX4_number 7 = .ok (.iload_n 2, 1) := dB_36_1_28.2.1.1.2
theorem dX4_number_8 : decode cX4_number 8 = .ok (.iadd, 1) := dB_36_1_28.2.1.2.1
theorem dX4_number_9 : decode cX4_number 9 = .ok (.laload, 1) := dB_36_1_28.2.1.2.2
theorem dX4_number_10 : decode cX4_number 10 = .ok (.lreturn, 1) := dB_36_1_28.2.2.1.1
theorem dX4_whole_0 : decode cX4_whole 0 = .ok (.aload_n 0, 1) := dB_36_1_28.2.2.1.2
theorem dX4_whole_1 : decode cX4_whole 1 = .ok (.iload_n 1, 1) := dB_36_1_28.2.2.2.1
theorem dX4_whole_2 : decode cX4_whole 2 = .ok (.iload_n 2, 1) := dB_36_1_28.2.2.2.2
theorem dB_36_1_29 : ((((decode cX4_whole 3 = .ok (.invokevirtual 32, 3)) ∧ (decode cX4_whole 6 = .ok (.l2i, 1))) ∧ ((decode cX4_whole 7 = .ok (.ireturn, 1)) ∧ (decode cX4_moveRefusal 0 = .ok (.aload_n 0, 1)))) ∧ (((decode cX4_moveRefusal 1 = .ok (.invokevirtual 36, 3)) ∧ (decode cX4_moveRefusal 4 = .ok (.ifCond .ne 6, 3))) ∧ ((decode cX4_moveRefusal 7 = .ok (.bipush (-11), 2)) ∧ (decode cX4_moveRefusal 9 = .ok (.ireturn, 1))))) ∧ ((((decode cX4_moveRefusal 10 = .ok (.aload_n 0, 1)) ∧ (decode cX4_moveRefusal 11 = .ok (.iload_n 1, 1))) ∧ ((decode cX4_moveRefusal 12 = .ok (.invokevirtual 40, 3)) ∧ (decode cX4_moveRefusal 15 = .ok (.ifCond .eq 11, 3)))) ∧ (((decode cX4_moveRefusal 18 = .ok (.aload_n 0, 1)) ∧ (decode cX4_moveRefusal 19 = .ok (.iload_n 3, 1))) ∧ ((decode cX4_moveRefusal 20 = .ok (.invokevirtual 40, 3)) ∧ (decode cX4_moveRefusal 23 = .ok (.ifCond .ne 6, 3))))) := by first | decide +kernel | ((repeat' apply And.intro) <;> decide +kernel)
theorem dX4_whole_3 : decode cX4_whole 3 = .ok (.invokevirtual 32, 3) := dB_36_1_29.1.1.1.1
theorem dX4_whole_6 : decode cX4_whole 6 = .ok (.l2i, 1) := dB_36_1_29.1.1.1.2
theorem dX4_whole_7 : decode cX4_whole 7 = .ok (.ireturn, 1) := dB_36_1_29.1.1.2.1
theorem dX4_moveRefusal_0 : decode cX4_moveRefusal 0 = .ok (.aload_n 0, 1) := dB_36_1_29.1.1.2.2
theorem dX4_moveRefusal_1 : decode cX4_moveRefusal 1 = .ok (.invokevirtual 36, 3) := dB_36_1_29.1.2.1.1
theorem dX4_moveRefusal_4 : decode cX4_moveRefusal 4 = .ok (.ifCond .ne 6, 3) := dB_36_1_29.1.2.1.2
theorem dX4_moveRefusal_7 : decode cX4_moveRefusal 7 = .ok (.bipush (-11), 2) := dB_36_1_29.1.2.2.1
theorem dX4_moveRefusal_9 : decode cX4_moveRefusal 9 = .ok (.ireturn, 1) := dB_36_1_29.1.2.2.2
theorem dX4_moveRefusal_10 : decode cX4_moveRefusal 10 = .ok (.aload_n 0, 1) := dB_36_1_29.2.1.1.1
theorem dX4_moveRefusal_11 : decode cX4_moveRefusal 11 = .ok (.iload_n 1, 1) := dB_36_1_29.2.1.1.2
theorem dX4_moveRefusal_12 : decode cX4_moveRefusal 12 = .ok (.invokevirtual 40, 3) := dB_36_1_29.2.1.2.1
theorem dX4_moveRefusal_15 : decode cX4_moveRefusal 15 = .ok (.ifCond .eq 11, 3) := dB_36_1_29.2.1.2.2
theorem dX4_moveRefusal_18 : decode cX4_moveRefusal 18 = .ok (.aload_n 0, 1) := dB_36_1_29.2.2.1.1
theorem dX4_moveRefusal_19 : decode cX4_moveRefusal 19 = .ok (.iload_n 3, 1) := dB_36_1_29.2.2.1.2
theorem dX4_moveRefusal_20 : decode cX4_moveRefusal 20 = .ok (.invokevirtual 40, 3) := dB_36_1_29.2.2.2.1
theorem dX4_moveRefusal_23 : decode cX4_moveRefusal 23 = .ok (.ifCond .ne 6, 3) := dB_36_1_29.2.2.2.2
theorem dB_36_1_30 : ((((decode cX4_moveRefusal 26 = .ok (.bipush (-12), 2)) ∧ (decode cX4_moveRefusal 28 = .ok (.ireturn, 1))) ∧ ((decode cX4_moveRefusal 29 = .ok (.aload_n 0, 1)) ∧ (decode cX4_moveRefusal 30 = .ok (.getfield 18, 3)))) ∧ (((decode cX4_moveRefusal 33 = .ok (.iload_n 1, 1)) ∧ (decode cX4_moveRefusal 34 = .ok (.iaload, 1))) ∧ ((decode cX4_moveRefusal 35 = .ok (.ifCond .lt 12, 3)) ∧ (decode cX4_moveRefusal 38 = .ok (.aload_n 0, 1))))) ∧ ((((decode cX4_moveRefusal 39 = .ok (.getfield 18, 3)) ∧ (decode cX4_moveRefusal 42 = .ok (.iload_n 3, 1))) ∧ ((decode cX4_moveRefusal 43 = .ok (.iaload, 1)) ∧ (decode cX4_moveRefusal 44 = .ok (.ifCond .ge 6, 3)))) ∧ (((decode cX4_moveRefusal 47 = .ok (.bipush (-11), 2)) ∧ (decode cX4_moveRefusal 49 = .ok (.ireturn, 1))) ∧ ((decode cX4_moveRefusal 50 = .ok (.aload_n 0, 1)) ∧ (decode cX4_moveRefusal 51 = .ok (.iload_n 1, 1))))) := by first | decide +kernel | ((repeat' apply And.intro) <;> decide +kernel)
theorem dX4_moveRefusal_26 : decode cX4_moveRefusal 26 = .ok (.bipush (-12), 2) := dB_36_1_30.1.1.1.1
theorem dX4_moveRefusal_28 : decode cX4_moveRefusal 28 = .ok (.ireturn, 1) := dB_36_1_30.1.1.1.2
theorem dX4_moveRefusal_29 : decode cX4_moveRefusal 29 = .ok (.aload_n 0, 1) := dB_36_1_30.1.1.2.1
theorem dX4_moveRefusal_30 : decode cX4_moveRefusal 30 = .ok (.getfield 18, 3) := dB_36_1_30.1.1.2.2
theorem dX4_moveRefusal_33 : decode cX4_moveRefusal 33 = .ok (.iload_n 1, 1) := dB_36_1_30.1.2.1.1
theorem dX4_moveRefusal_34 : decode cX4_moveRefusal 34 = .ok (.iaload, 1) := dB_36_1_30.1.2.1.2
theorem dX4_moveRefusal_35 : decode cX4_moveRefusal 35 = .ok (.ifCond .lt 12, 3) := dB_36_1_30.1.2.2.1
theorem dX4_moveRefusal_38 : decode cX4_moveRefusal 38 = .ok (.aload_n 0, 1) := dB_36_1_30.1.2.2.2
theorem dX4_moveRefusal_39 : decode cX4_moveRefusal 39 = .ok (.getfield 18, 3) := dB_36_1_30.2.1.1.1
theorem dX4_moveRefusal_42 : decode cX4_moveRefusal 42 = .ok (.iload_n 3, 1) := dB_36_1_30.2.1.1.2
theorem dX4_moveRefusal_43 : decode cX4_moveRefusal 43 = .ok (.iaload, 1) := dB_36_1_30.2.1.2.1
theorem dX4_moveRefusal_44 : decode cX4_moveRefusal 44 = .ok (.ifCond .ge 6, 3) := dB_36_1_30.2.1.2.2
theorem dX4_moveRefusal_47 : decode cX4_moveRefusal 47 = .ok (.bipush (-11), 2) := dB_36_1_30.2.2.1.1
theorem dX4_moveRefusal_49 : decode cX4_moveRefusal 49 = .ok (.ireturn, 1) := dB_36_1_30.2.2.1.2
theorem dX4_moveRefusal_50 : decode cX4_moveRefusal 50 = .ok (.aload_n 0, 1) := dB_36_1_30.2.2.2.1
theorem dX4_moveRefusal_51 : decode cX4_moveRefusal 51 = .ok (.iload_n 1, 1) := dB_36_1_30.2.2.2.2
theorem dB_36_1_31 : ((((decode cX4_moveRefusal 52 = .ok (.iload_n 2, 1)) ∧ (decode cX4_moveRefusal 53 = .ok (.iload 5, 2))) ∧ ((decode cX4_moveRefusal 55 = .ok (.invokevirtual 44, 3)) ∧ (decode cX4_moveRefusal 58 = .ok (.ifCond .eq 19, 3)))) ∧ (((decode cX4_moveRefusal 61 = .ok (.aload_n 0, 1)) ∧ (decode cX4_moveRefusal 62 = .ok (.iload_n 3, 1))) ∧ ((decode cX4_moveRefusal 63 = .ok (.iload 4, 2)) ∧ (decode cX4_moveRefusal 65 = .ok (.iload 5, 2))))) ∧ ((((decode cX4_moveRefusal 67 = .ok (.invokevirtual 44, 3)) ∧ (decode cX4_moveRefusal 70 = .ok (.ifCond .eq 7, 3))) ∧ ((decode cX4_moveRefusal 73 = .ok (.iconst 0, 1)) ∧ (decode cX4_moveRefusal 74 = .ok (.goto 5, 3)))) ∧ (((decode cX4_moveRefusal 77 = .ok (.bipush (-12), 2)) ∧ (decode cX4_moveRefusal 79 = .ok (.ireturn, 1))) ∧ ((decode cX4_hasNumbers 0 = .ok (.iload_n 2, 1)) ∧ (decode cX4_hasNumbers 1 = .ok (.ifCond .lt 33, 3))))) := by first | decide +kernel | ((repeat' apply And.intro) <;> decide +kernel)
theorem dX4_moveRefusal_52 : decode cX4_moveRefusal 52 = .ok (.iload_n 2, 1) := dB_36_1_31.1.1.1.1
theorem dX4_moveRefusal_53 : decode cX4_moveRefusal 53 = .ok (.iload 5, 2) := dB_36_1_31.1.1.1.2
theorem dX4_moveRefusal_55 : decode cX4_moveRefusal 55 = .ok (.invokevirtual 44, 3) := dB_36_1_31.1.1.2.1
theorem dX4_moveRefusal_58 : decode cX4_moveRefusal 58 = .ok (.ifCond .eq 19, 3) := dB_36_1_31.1.1.2.2
theorem dX4_moveRefusal_61 : decode cX4_moveRefusal 61 = .ok (.aload_n 0, 1) := dB_36_1_31.1.2.1.1
theorem dX4_moveRefusal_62 : decode cX4_moveRefusal 62 = .ok (.iload_n 3, 1) := dB_36_1_31.1.2.1.2
theorem dX4_moveRefusal_63 : decode cX4_moveRefusal 63 = .ok (.iload 4, 2) := dB_36_1_31.1.2.2.1
theorem dX4_moveRefusal_65 : decode cX4_moveRefusal 65 = .ok (.iload 5, 2) := dB_36_1_31.1.2.2.2
theorem dX4_moveRefusal_67 : decode cX4_moveRefusal 67 = .ok (.invokevirtual 44, 3) := dB_36_1_31.2.1.1.1
theorem dX4_moveRefusal_70 : decode cX4_moveRefusal 70 = .ok (.ifCond .eq 7, 3) := dB_36_1_31.2.1.1.2
theorem dX4_moveRefusal_73 : decode cX4_moveRefusal 73 = .ok (.iconst 0, 1) := dB_36_1_31.2.1.2.1
theorem dX4_moveRefusal_74 : decode cX4_moveRefusal 74 = .ok (.goto 5, 3) := dB_36_1_31.2.1.2.2
theorem dX4_moveRefusal_77 : decode cX4_moveRefusal 77 = .ok (.bipush (-12), 2) := dB_36_1_31.2.2.1.1
theorem dX4_moveRefusal_79 : decode cX4_moveRefusal 79 = .ok (.ireturn, 1) := dB_36_1_31.2.2.1.2
theorem dX4_hasNumbers_0 : decode cX4_hasNumbers 0 = .ok (.iload_n 2, 1) := dB_36_1_31.2.2.2.1
theorem dX4_hasNumbers_1 : decode cX4_hasNumbers 1 = .ok (.ifCond .lt 33, 3) := dB_36_1_31.2.2.2.2
theorem dB_36_1_32 : ((((decode cX4_hasNumbers 4 = .ok (.iload_n 3, 1)) ∧ (decode cX4_hasNumbers 5 = .ok (.ifCond .lt 29, 3))) ∧ ((decode cX4_hasNumbers 8 = .ok (.iload_n 3, 1)) ∧ (decode cX4_hasNumbers 9 = .ok (.aload_n 0, 1)))) ∧ (((decode cX4_hasNumbers 10 = .ok (.getfield 18, 3)) ∧ (decode cX4_hasNumbers 13 = .ok (.iload_n 1, 1))) ∧ ((decode cX4_hasNumbers 14 = .ok (.iaload, 1)) ∧ (decode cX4_hasNumbers 15 = .ok (.if_icmp .gt 19, 3))))) ∧ ((((decode cX4_hasNumbers 18 = .ok (.iload_n 2, 1)) ∧ (decode cX4_hasNumbers 19 = .ok (.aload_n 0, 1))) ∧ ((decode cX4_hasNumbers 20 = .ok (.getfield 18, 3)) ∧ (decode cX4_hasNumbers 23 = .ok (.iload_n 1, 1)))) ∧ (((decode cX4_hasNumbers 24 = .ok (.iaload, 1)) ∧ (decode cX4_hasNumbers 25 = .ok (.iload_n 3, 1))) ∧ ((decode cX4_hasNumbers 26 = .ok (.isub, 1)) ∧ (decode cX4_hasNumbers 27 = .ok (.if_icmp .gt 7, 3))))) := by first | decide +kernel | ((repeat' apply And.intro) <;> decide +kernel)
theorem dX4_hasNumbers_4 : decode cX4_hasNumbers 4 = .ok (.iload_n 3, 1) := dB_36_1_32.1.1.1.1
theorem dX4_hasNumbers_5 : decode cX4_hasNumbers 5 = .ok (.ifCond .lt 29, 3) := dB_36_1_32.1.1.1.2
theorem dX4_hasNumbers_8 : decode cX4_hasNumbers 8 = .ok (.iload_n 3, 1) := dB_36_1_32.1.1.2.1
theorem dX4_hasNumbers_9 : decode cX4_hasNumbers 9 = .ok (.aload_n 0, 1) := dB_36_1_32.1.1.2.2
theorem dX4_hasNumbers_10 : decode cX4_hasNumbers 10 = .ok (.getfield 18, 3) := dB_36_1_32.1.2.1.1
theorem dX4_hasNumbers_13 : decode cX4_hasNumbers 13 = .ok (.iload_n 1, 1) := dB_36_1_32.1.2.1.2
theorem dX4_hasNumbers_14 : decode cX4_hasNumbers 14 = .ok (.iaload, 1) := dB_36_1_32.1.2.2.1
theorem dX4_hasNumbers_15 : decode cX4_hasNumbers 15 = .ok (.if_icmp .gt 19, 3) := dB_36_1_32.1.2.2.2
theorem dX4_hasNumbers_18 : decode cX4_hasNumbers 18 = .ok (.iload_n 2, 1) := dB_36_1_32.2.1.1.1
theorem dX4_hasNumbers_19 : decode cX4_hasNumbers 19 = .ok (.aload_n 0, 1) := dB_36_1_32.2.1.1.2
theorem dX4_hasNumbers_20 : decode cX4_hasNumbers 20 = .ok (.getfield 18, 3) := dB_36_1_32.2.1.2.1
theorem dX4_hasNumbers_23 : decode cX4_hasNumbers 23 = .ok (.iload_n 1, 1) := dB_36_1_32.2.1.2.2
theorem dX4_hasNumbers_24 : decode cX4_hasNumbers 24 = .ok (.iaload, 1) := dB_36_1_32.2.2.1.1
theorem dX4_hasNumbers_25 : decode cX4_hasNumbers 25 = .ok (.iload_n 3, 1) := dB_36_1_32.2.2.1.2
theorem dX4_hasNumbers_26 : decode cX4_hasNumbers 26 = .ok (.isub, 1) := dB_36_1_32.2.2.2.1
theorem dX4_hasNumbers_27 : decode cX4_hasNumbers 27 = .ok (.if_icmp .gt 7, 3) := dB_36_1_32.2.2.2.2
theorem dB_36_1_33 : ((((decode cX4_hasNumbers 30 = .ok (.iconst 1, 1)) ∧ (decode cX4_hasNumbers 31 = .ok (.goto 4, 3))) ∧ ((decode cX4_hasNumbers 34 = .ok (.iconst 0, 1)) ∧ (decode cX4_hasNumbers 35 = .ok (.ireturn, 1)))) ∧ (((decode cX4_move 0 = .ok (.aload_n 0, 1)) ∧ (decode cX4_move 1 = .ok (.getfield 22, 3))) ∧ ((decode cX4_move 4 = .ok (.iload_n 1, 1)) ∧ (decode cX4_move 5 = .ok (.iconst 5, 1))))) ∧ ((((decode cX4_move 6 = .ok (.imul, 1)) ∧ (decode cX4_move 7 = .ok (.iload_n 2, 1))) ∧ ((decode cX4_move 8 = .ok (.iadd, 1)) ∧ (decode cX4_move 9 = .ok (.aload_n 0, 1)))) ∧ (((decode cX4_move 10 = .ok (.getfield 22, 3)) ∧ (decode cX4_move 13 = .ok (.iload_n 3, 1))) ∧ ((decode cX4_move 14 = .ok (.iconst 5, 1)) ∧ (decode cX4_move 15 = .ok (.imul, 1))))) := by first | decide +kernel | ((repeat' apply And.intro) <;> decide +kernel)
theorem dX4_hasNumbers_30 : decode cX4_hasNumbers 30 = .ok (.iconst 1, 1) := dB_36_1_33.1.1.1.1
theorem dX4_hasNumbers_31 : decode cX4_hasNumbers 31 = .ok (.goto 4, 3) := dB_36_1_33.1.1.1.2
theorem dX4_hasNumbers_34 : decode cX4_hasNumbers 34 = .ok (.iconst 0, 1) := dB_36_1_33.1.1.2.1
theorem dX4_hasNumbers_35 : decode cX4_hasNumbers 35 = .ok (.ireturn, 1) := dB_36_1_33.1.1.2.2
theorem dX4_move_0 : decode cX4_move 0 = .ok (.aload_n 0, 1) := dB_36_1_33.1.2.1.1
theorem dX4_move_1 : decode cX4_move 1 = .ok (.getfield 22, 3) := dB_36_1_33.1.2.1.2
theorem dX4_move_4 : decode cX4_move 4 = .ok (.iload_n 1, 1) := dB_36_1_33.1.2.2.1
theorem dX4_move_5 : decode cX4_move 5 = .ok (.iconst 5, 1) := dB_36_1_33.1.2.2.2
theorem dX4_move_6 : decode cX4_move 6 = .ok (.imul, 1) := dB_36_1_33.2.1.1.1
theorem dX4_move_7 : decode cX4_move 7 = .ok (.iload_n 2, 1) := dB_36_1_33.2.1.1.2
theorem dX4_move_8 : decode cX4_move 8 = .ok (.iadd, 1) := dB_36_1_33.2.1.2.1
theorem dX4_move_9 : decode cX4_move 9 = .ok (.aload_n 0, 1) := dB_36_1_33.2.1.2.2
theorem dX4_move_10 : decode cX4_move 10 = .ok (.getfield 22, 3) := dB_36_1_33.2.2.1.1
theorem dX4_move_13 : decode cX4_move 13 = .ok (.iload_n 3, 1) := dB_36_1_33.2.2.1.2
theorem dX4_move_14 : decode cX4_move 14 = .ok (.iconst 5, 1) := dB_36_1_33.2.2.2.1
theorem dX4_move_15 : decode cX4_move 15 = .ok (.imul, 1) := dB_36_1_33.2.2.2.2
theorem dB_36_1_34 : ((((decode cX4_move 16 = .ok (.iload 4, 2)) ∧ (decode cX4_move 18 = .ok (.iadd, 1))) ∧ ((decode cX4_move 19 = .ok (.iload 5, 2)) ∧ (decode cX4_move 21 = .ok (.invokestatic 48, 3)))) ∧ (((decode cX4_move 24 = .ok (.return_, 1)) ∧ (decode cX5_init 0 = .ok (.aload_n 0, 1))) ∧ ((decode cX5_init 1 = .ok (.invokespecial 1, 3)) ∧ (decode cX5_init 4 = .ok (.return_, 1))))) ∧ ((((decode cX5_lets 0 = .ok (.iload_n 2, 1)) ∧ (decode cX5_lets 1 = .ok (.ifCond .eq 12, 3))) ∧ ((decode cX5_lets 4 = .ok (.aload_n 0, 1)) ∧ (decode cX5_lets 5 = .ok (.iload_n 1, 1)))) ∧ (((decode cX5_lets 6 = .ok (.iload_n 2, 1)) ∧ (decode cX5_lets 7 = .ok (.invokespecial 7, 3))) ∧ ((decode cX5_lets 10 = .ok (.goto 4, 3)) ∧ (decode cX5_lets 13 = .ok (.iconst 0, 1))))) := by first | decide +kernel | ((repeat' apply And.intro) <;> decide +kernel)
theorem dX4_move_16 : decode cX4_move 16 = .ok (.iload 4, 2) := dB_36_1_34.1.1.1.1
theorem dX4_move_18 : decode cX4_move 18 = .ok (.iadd, 1) := dB_36_1_34.1.1.1.2
theorem dX4_move_19 : decode cX4_move 19 = .ok (.iload 5, 2) := dB_36_1_34.1.1.2.1
theorem dX4_move_21 : decode cX4_move 21 = .ok (.invokestatic 48, 3) := dB_36_1_34.1.1.2.2
theorem dX4_move_24 : decode cX4_move 24 = .ok (.return_, 1) := dB_36_1_34.1.2.1.1
theorem dX5_init_0 : decode cX5_init 0 = .ok (.aload_n 0, 1) := dB_36_1_34.1.2.1.2
theorem dX5_init_1 : decode cX5_init 1 = .ok (.invokespecial 1, 3) := dB_36_1_34.1.2.2.1
theorem dX5_init_4 : decode cX5_init 4 = .ok (.return_, 1) := dB_36_1_34.1.2.2.2
theorem dX5_lets_0 : decode cX5_lets 0 = .ok (.iload_n 2, 1) := dB_36_1_34.2.1.1.1
theorem dX5_lets_1 : decode cX5_lets 1 = .ok (.ifCond .eq 12, 3) := dB_36_1_34.2.1.1.2
theorem dX5_lets_4 : decode cX5_lets 4 = .ok (.aload_n 0, 1) := dB_36_1_34.2.1.2.1
theorem dX5_lets_5 : decode cX5_lets 5 = .ok (.iload_n 1, 1) := dB_36_1_34.2.1.2.2
theorem dX5_lets_6 : decode cX5_lets 6 = .ok (.iload_n 2, 1) := dB_36_1_34.2.2.1.1
theorem dX5_lets_7 : decode cX5_lets 7 = .ok (.invokespecial 7, 3) := dB_36_1_34.2.2.1.2
theorem dX5_lets_10 : decode cX5_lets 10 = .ok (.goto 4, 3) := dB_36_1_34.2.2.2.1
theorem dX5_lets_13 : decode cX5_lets 13 = .ok (.iconst 0, 1) := dB_36_1_34.2.2.2.2
theorem dB_36_1_35 : ((((decode cX5_lets 14 = .ok (.ireturn, 1)) ∧ (decode cX5_letsMark 0 = .ok (.iload_n 1, 1))) ∧ ((decode cX5_letsMark 1 = .ok (.ifCond .eq 14, 3)) ∧ (decode cX5_letsMark 4 = .ok (.bipush 10, 2)))) ∧ (((decode cX5_letsMark 6 = .ok (.aload_n 0, 1)) ∧ (decode cX5_letsMark 7 = .ok (.iload_n 1, 1))) ∧ ((decode cX5_letsMark 8 = .ok (.invokespecial 11, 3)) ∧ (decode cX5_letsMark 11 = .ok (.iadd, 1))))) ∧ ((((decode cX5_letsMark 12 = .ok (.goto 5, 3)) ∧ (decode cX5_letsMark 15 = .ok (.bipush 10, 2))) ∧ ((decode cX5_letsMark 17 = .ok (.ireturn, 1)) ∧ (decode cX6_init 0 = .ok (.aload_n 0, 1)))) ∧ (((decode cX6_init 1 = .ok (.invokespecial 3, 3)) ∧ (decode cX6_init 4 = .ok (.return_, 1))) ∧ ((decode cX6_lets 0 = .ok (.iload_n 1, 1)) ∧ (decode cX6_lets 1 = .ok (.ireturn, 1))))) := by first | decide +kernel | ((repeat' apply And.intro) <;> decide +kernel)
theorem dX5_lets_14 : decode cX5_lets 14 = .ok (.ireturn, 1) := dB_36_1_35.1.1.1.1
theorem dX5_letsMark_0 : decode cX5_letsMark 0 = .ok (.iload_n 1, 1) := dB_36_1_35.1.1.1.2
theorem dX5_letsMark_1 : decode cX5_letsMark 1 = .ok (.ifCond .eq 14, 3) := dB_36_1_35.1.1.2.1
theorem dX5_letsMark_4 : decode cX5_letsMark 4 = .ok (.bipush 10, 2) := dB_36_1_35.1.1.2.2
theorem dX5_letsMark_6 : decode cX5_letsMark 6 = .ok (.aload_n 0, 1) := dB_36_1_35.1.2.1.1
theorem dX5_letsMark_7 : decode cX5_letsMark 7 = .ok (.iload_n 1, 1) := dB_36_1_35.1.2.1.2
theorem dX5_letsMark_8 : decode cX5_letsMark 8 = .ok (.invokespecial 11, 3) := dB_36_1_35.1.2.2.1
theorem dX5_letsMark_11 : decode cX5_letsMark 11 = .ok (.iadd, 1) := dB_36_1_35.1.2.2.2
theorem dX5_letsMark_12 : decode cX5_letsMark 12 = .ok (.goto 5, 3) := dB_36_1_35.2.1.1.1
theorem dX5_letsMark_15 : decode cX5_letsMark 15 = .ok (.bipush 10, 2) := dB_36_1_35.2.1.1.2
theorem dX5_letsMark_17 : decode cX5_letsMark 17 = .ok (.ireturn, 1) := dB_36_1_35.2.1.2.1
theorem dX6_init_0 : decode cX6_init 0 = .ok (.aload_n 0, 1) := dB_36_1_35.2.1.2.2
theorem dX6_init_1 : decode cX6_init 1 = .ok (.invokespecial 3, 3) := dB_36_1_35.2.2.1.1
theorem dX6_init_4 : decode cX6_init 4 = .ok (.return_, 1) := dB_36_1_35.2.2.1.2
theorem dX6_lets_0 : decode cX6_lets 0 = .ok (.iload_n 1, 1) := dB_36_1_35.2.2.2.1
theorem dX6_lets_1 : decode cX6_lets 1 = .ok (.ireturn, 1) := dB_36_1_35.2.2.2.2
theorem dB_36_1_36 : ((((decode cX6_letsMark 0 = .ok (.iconst 1, 1)) ∧ (decode cX6_letsMark 1 = .ok (.ireturn, 1))) ∧ ((decode cX6_costs 0 = .ok (.bipush (-9), 2)) ∧ (decode cX6_costs 2 = .ok (.ireturn, 1)))) ∧ (((decode cX6_costsMark 0 = .ok (.sipush 1000, 3)) ∧ (decode cX6_costsMark 3 = .ok (.ireturn, 1))) ∧ ((decode cX6_begins 0 = .ok (.iload_n 1, 1)) ∧ (decode cX6_begins 1 = .ok (.ireturn, 1))))) ∧ ((((decode cX6_beginsMark 0 = .ok (.iconst 0, 1)) ∧ (decode cX6_beginsMark 1 = .ok (.ireturn, 1))) ∧ ((decode cX7_init 0 = .ok (.aload_n 0, 1)) ∧ (decode cX7_init 1 = .ok (.invokespecial 3, 3)))) ∧ (((decode cX7_init 4 = .ok (.aload_n 0, 1)) ∧ (decode cX7_init 5 = .ok (.aload_n 1, 1))) ∧ ((decode cX7_init 6 = .ok (.putfield 9, 3)) ∧ (decode cX7_init 9 = .ok (.return_, 1))))) := by first | decide +kernel | ((repeat' apply And.intro) <;> decide +kernel)
theorem dX6_letsMark_0 : decode cX6_letsMark 0 = .ok (.iconst 1, 1) := dB_36_1_36.1.1.1.1
theorem dX6_letsMark_1 : decode cX6_letsMark 1 = .ok (.ireturn, 1) := dB_36_1_36.1.1.1.2
theorem dX6_costs_0 : decode cX6_costs 0 = .ok (.bipush (-9), 2) := dB_36_1_36.1.1.2.1
theorem dX6_costs_2 : decode cX6_costs 2 = .ok (.ireturn, 1) := dB_36_1_36.1.1.2.2
theorem dX6_costsMark_0 : decode cX6_costsMark 0 = .ok (.sipush 1000, 3) := dB_36_1_36.1.2.1.1
theorem dX6_costsMark_3 : decode cX6_costsMark 3 = .ok (.ireturn, 1) := dB_36_1_36.1.2.1.2
theorem dX6_begins_0 : decode cX6_begins 0 = .ok (.iload_n 1, 1) := dB_36_1_36.1.2.2.1
theorem dX6_begins_1 : decode cX6_begins 1 = .ok (.ireturn, 1) := dB_36_1_36.1.2.2.2
theorem dX6_beginsMark_0 : decode cX6_beginsMark 0 = .ok (.iconst 0, 1) := dB_36_1_36.2.1.1.1
theorem dX6_beginsMark_1 : decode cX6_beginsMark 1 = .ok (.ireturn, 1) := dB_36_1_36.2.1.1.2
theorem dX7_init_0 : decode cX7_init 0 = .ok (.aload_n 0, 1) := dB_36_1_36.2.1.2.1
theorem dX7_init_1 : decode cX7_init 1 = .ok (.invokespecial 3, 3) := dB_36_1_36.2.1.2.2
theorem dX7_init_4 : decode cX7_init 4 = .ok (.aload_n 0, 1) := dB_36_1_36.2.2.1.1
theorem dX7_init_5 : decode cX7_init 5 = .ok (.aload_n 1, 1) := dB_36_1_36.2.2.1.2
theorem dX7_init_6 : decode cX7_init 6 = .ok (.putfield 9, 3) := dB_36_1_36.2.2.2.1
theorem dX7_init_9 : decode cX7_init 9 = .ok (.return_, 1) := dB_36_1_36.2.2.2.2
theorem dB_36_1_37 : ((((decode cX7_countCuts 0 = .ok (.aload_n 0, 1)) ∧ (decode cX7_countCuts 1 = .ok (.iload_n 1, 1))) ∧ ((decode cX7_countCuts 2 = .ok (.iload_n 2, 1)) ∧ (decode cX7_countCuts 3 = .ok (.iload_n 3, 1)))) ∧ (((decode cX7_countCuts 4 = .ok (.ldc 15, 2)) ∧ (decode cX7_countCuts 6 = .ok (.invokevirtual 16, 3))) ∧ ((decode cX7_countCuts 9 = .ok (.aload_n 0, 1)) ∧ (decode cX7_countCuts 10 = .ok (.getfield 20, 3))))) ∧ ((((decode cX7_countCuts 13 = .ok (.ireturn, 1)) ∧ (decode cX7_findCut 0 = .ok (.aload_n 0, 1))) ∧ ((decode cX7_findCut 1 = .ok (.iload_n 1, 1)) ∧ (decode cX7_findCut 2 = .ok (.iload_n 2, 1)))) ∧ (((decode cX7_findCut 3 = .ok (.iload_n 3, 1)) ∧ (decode cX7_findCut 4 = .ok (.iload 4, 2))) ∧ ((decode cX7_findCut 6 = .ok (.invokevirtual 16, 3)) ∧ (decode cX7_findCut 9 = .ok (.aload_n 0, 1))))) := by first | decide +kernel | ((repeat' apply And.intro) <;> decide +kernel)
theorem dX7_countCuts_0 : decode cX7_countCuts 0 = .ok (.aload_n 0, 1) := dB_36_1_37.1.1.1.1
theorem dX7_countCuts_1 : decode cX7_countCuts 1 = .ok (.iload_n 1, 1) := dB_36_1_37.1.1.1.2
theorem dX7_countCuts_2 : decode cX7_countCuts 2 = .ok (.iload_n 2, 1) := dB_36_1_37.1.1.2.1
theorem dX7_countCuts_3 : decode cX7_countCuts 3 = .ok (.iload_n 3, 1) := dB_36_1_37.1.1.2.2
theorem dX7_countCuts_4 : decode cX7_countCuts 4 = .ok (.ldc 15, 2) := dB_36_1_37.1.2.1.1
theorem dX7_countCuts_6 : decode cX7_countCuts 6 = .ok (.invokevirtual 16, 3) := dB_36_1_37.1.2.1.2
theorem dX7_countCuts_9 : decode cX7_countCuts 9 = .ok (.aload_n 0, 1) := dB_36_1_37.1.2.2.1
theorem dX7_countCuts_10 : decode cX7_countCuts 10 = .ok (.getfield 20, 3) := dB_36_1_37.1.2.2.2
theorem dX7_countCuts_13 : decode cX7_countCuts 13 = .ok (.ireturn, 1) := dB_36_1_37.2.1.1.1
theorem dX7_findCut_0 : decode cX7_findCut 0 = .ok (.aload_n 0, 1) := dB_36_1_37.2.1.1.2
theorem dX7_findCut_1 : decode cX7_findCut 1 = .ok (.iload_n 1, 1) := dB_36_1_37.2.1.2.1
theorem dX7_findCut_2 : decode cX7_findCut 2 = .ok (.iload_n 2, 1) := dB_36_1_37.2.1.2.2
theorem dX7_findCut_3 : decode cX7_findCut 3 = .ok (.iload_n 3, 1) := dB_36_1_37.2.2.1.1
theorem dX7_findCut_4 : decode cX7_findCut 4 = .ok (.iload 4, 2) := dB_36_1_37.2.2.1.2
theorem dX7_findCut_6 : decode cX7_findCut 6 = .ok (.invokevirtual 16, 3) := dB_36_1_37.2.2.2.1
theorem dX7_findCut_9 : decode cX7_findCut 9 = .ok (.aload_n 0, 1) := dB_36_1_37.2.2.2.2
theorem dB_36_1_38 : ((((decode cX7_findCut 10 = .ok (.getfield 24, 3)) ∧ (decode cX7_findCut 13 = .ok (.ireturn, 1))) ∧ ((decode cX7_hunt 0 = .ok (.aload_n 0, 1)) ∧ (decode cX7_hunt 1 = .ok (.iload_n 1, 1)))) ∧ (((decode cX7_hunt 2 = .ok (.putfield 27, 3)) ∧ (decode cX7_hunt 5 = .ok (.aload_n 0, 1))) ∧ ((decode cX7_hunt 6 = .ok (.iload_n 2, 1)) ∧ (decode cX7_hunt 7 = .ok (.putfield 30, 3))))) ∧ ((((decode cX7_hunt 10 = .ok (.aload_n 0, 1)) ∧ (decode cX7_hunt 11 = .ok (.iload_n 3, 1))) ∧ ((decode cX7_hunt 12 = .ok (.putfield 33, 3)) ∧ (decode cX7_hunt 15 = .ok (.aload_n 0, 1)))) ∧ (((decode cX7_hunt 16 = .ok (.iload 4, 2)) ∧ (decode cX7_hunt 18 = .ok (.putfield 36, 3))) ∧ ((decode cX7_hunt 21 = .ok (.aload_n 0, 1)) ∧ (decode cX7_hunt 22 = .ok (.iconst 0, 1))))) := by first | decide +kernel | ((repeat' apply And.intro) <;> decide +kernel)
theorem dX7_findCut_10 : decode cX7_findCut 10 = .ok (.getfield 24, 3) := dB_36_1_38.1.1.1.1
theorem dX7_findCut_13 : decode cX7_findCut 13 = .ok (.ireturn, 1) := dB_36_1_38.1.1.1.2
theorem dX7_hunt_0 : decode cX7_hunt 0 = .ok (.aload_n 0, 1) := dB_36_1_38.1.1.2.1
theorem dX7_hunt_1 : decode cX7_hunt 1 = .ok (.iload_n 1, 1) := dB_36_1_38.1.1.2.2
theorem dX7_hunt_2 : decode cX7_hunt 2 = .ok (.putfield 27, 3) := dB_36_1_38.1.2.1.1
theorem dX7_hunt_5 : decode cX7_hunt 5 = .ok (.aload_n 0, 1) := dB_36_1_38.1.2.1.2
theorem dX7_hunt_6 : decode cX7_hunt 6 = .ok (.iload_n 2, 1) := dB_36_1_38.1.2.2.1
theorem dX7_hunt_7 : decode cX7_hunt 7 = .ok (.putfield 30, 3) := dB_36_1_38.1.2.2.2
theorem dX7_hunt_10 : decode cX7_hunt 10 = .ok (.aload_n 0, 1) := dB_36_1_38.2.1.1.1
theorem dX7_hunt_11 : decode cX7_hunt 11 = .ok (.iload_n 3, 1) := dB_36_1_38.2.1.1.2
theorem dX7_hunt_12 : decode cX7_hunt 12 = .ok (.putfield 33, 3) := dB_36_1_38.2.1.2.1
theorem dX7_hunt_15 : decode cX7_hunt 15 = .ok (.aload_n 0, 1) := dB_36_1_38.2.1.2.2
theorem dX7_hunt_16 : decode cX7_hunt 16 = .ok (.iload 4, 2) := dB_36_1_38.2.2.1.1
theorem dX7_hunt_18 : decode cX7_hunt 18 = .ok (.putfield 36, 3) := dB_36_1_38.2.2.1.2
theorem dX7_hunt_21 : decode cX7_hunt 21 = .ok (.aload_n 0, 1) := dB_36_1_38.2.2.2.1
theorem dX7_hunt_22 : decode cX7_hunt 22 = .ok (.iconst 0, 1) := dB_36_1_38.2.2.2.2
theorem dB_36_1_39 : ((((decode cX7_hunt 23 = .ok (.putfield 20, 3)) ∧ (decode cX7_hunt 26 = .ok (.aload_n 0, 1))) ∧ ((decode cX7_hunt 27 = .ok (.bipush (-9), 2)) ∧ (decode cX7_hunt 29 = .ok (.putfield 24, 3)))) ∧ (((decode cX7_hunt 32 = .ok (.aload_n 0, 1)) ∧ (decode cX7_hunt 33 = .ok (.aload_n 0, 1))) ∧ ((decode cX7_hunt 34 = .ok (.getfield 9, 3)) ∧ (decode cX7_hunt 37 = .ok (.getfield 39, 3))))) ∧ ((((decode cX7_hunt 40 = .ok (.getfield 45, 3)) ∧ (decode cX7_hunt 43 = .ok (.iconst 1, 1))) ∧ ((decode cX7_hunt 44 = .ok (.isub, 1)) ∧ (decode cX7_hunt 45 = .ok (.iconst 0, 1)))) ∧ (((decode cX7_hunt 46 = .ok (.iconst 0, 1)) ∧ (decode cX7_hunt 47 = .ok (.invokevirtual 50, 3))) ∧ ((decode cX7_hunt 50 = .ok (.return_, 1)) ∧ (decode cX7_chooseForCut 0 = .ok (.iload_n 3, 1))))) := by first | decide +kernel | ((repeat' apply And.intro) <;> decide +kernel)
theorem dX7_hunt_23 : decode cX7_hunt 23 = .ok (.putfield 20, 3) := dB_36_1_39.1.1.1.1
theorem dX7_hunt_26 : decode cX7_hunt 26 = .ok (.aload_n 0, 1) := dB_36_1_39.1.1.1.2
theorem dX7_hunt_27 : decode cX7_hunt 27 = .ok (.bipush (-9), 2) := dB_36_1_39.1.1.2.1
theorem dX7_hunt_29 : decode cX7_hunt 29 = .ok (.putfield 24, 3) := dB_36_1_39.1.1.2.2
theorem dX7_hunt_32 : decode cX7_hunt 32 = .ok (.aload_n 0, 1) := dB_36_1_39.1.2.1.1
theorem dX7_hunt_33 : decode cX7_hunt 33 = .ok (.aload_n 0, 1) := dB_36_1_39.1.2.1.2
theorem dX7_hunt_34 : decode cX7_hunt 34 = .ok (.getfield 9, 3) := dB_36_1_39.1.2.2.1
theorem dX7_hunt_37 : decode cX7_hunt 37 = .ok (.getfield 39, 3) := dB_36_1_39.1.2.2.2
theorem dX7_hunt_40 : decode cX7_hunt 40 = .ok (.getfield 45, 3) := dB_36_1_39.2.1.1.1
theorem dX7_hunt_43 : decode cX7_hunt 43 = .ok (.iconst 1, 1) := dB_36_1_39.2.1.1.2
theorem dX7_hunt_44 : decode cX7_hunt 44 = .ok (.isub, 1) := dB_36_1_39.2.1.2.1
theorem dX7_hunt_45 : decode cX7_hunt 45 = .ok (.iconst 0, 1) := dB_36_1_39.2.1.2.2
theorem dX7_hunt_46 : decode cX7_hunt 46 = .ok (.iconst 0, 1) := dB_36_1_39.2.2.1.1
theorem dX7_hunt_47 : decode cX7_hunt 47 = .ok (.invokevirtual 50, 3) := dB_36_1_39.2.2.1.2
theorem dX7_hunt_50 : decode cX7_hunt 50 = .ok (.return_, 1) := dB_36_1_39.2.2.2.1
theorem dX7_chooseForCut_0 : decode cX7_chooseForCut 0 = .ok (.iload_n 3, 1) := dB_36_1_39.2.2.2.2
theorem dB_36_1_40 : ((((decode cX7_chooseForCut 1 = .ok (.aload_n 0, 1)) ∧ (decode cX7_chooseForCut 2 = .ok (.getfield 33, 3))) ∧ ((decode cX7_chooseForCut 5 = .ok (.if_icmp .gt 12, 3)) ∧ (decode cX7_chooseForCut 8 = .ok (.aload_n 0, 1)))) ∧ (((decode cX7_chooseForCut 9 = .ok (.getfield 24, 3)) ∧ (decode cX7_chooseForCut 12 = .ok (.bipush (-9), 2))) ∧ ((decode cX7_chooseForCut 14 = .ok (.if_icmp .eq 4, 3)) ∧ (decode cX7_chooseForCut 17 = .ok (.return_, 1))))) ∧ ((((decode cX7_chooseForCut 18 = .ok (.iload_n 1, 1)) ∧ (decode cX7_chooseForCut 19 = .ok (.ifCond .ge 10, 3))) ∧ ((decode cX7_chooseForCut 22 = .ok (.aload_n 0, 1)) ∧ (decode cX7_chooseForCut 23 = .ok (.iload_n 2, 1)))) ∧ (((decode cX7_chooseForCut 24 = .ok (.iload_n 3, 1)) ∧ (decode cX7_chooseForCut 25 = .ok (.invokevirtual 54, 3))) ∧ ((decode cX7_chooseForCut 28 = .ok (.return_, 1)) ∧ (decode cX7_chooseForCut 29 = .ok (.iconst 1, 1))))) := by first | decide +kernel | ((repeat' apply And.intro) <;> decide +kernel)
theorem dX7_chooseForCut_1 : decode cX7_chooseForCut 1 = .ok (.aload_n 0, 1) := dB_36_1_40.1.1.1.1
theorem dX7_chooseForCut_2 : decode cX7_chooseForCut 2 = .ok (.getfield 33, 3) := dB_36_1_40.1.1.1.2
theorem dX7_chooseForCut_5 : decode cX7_chooseForCut 5 = .ok (.if_icmp .gt 12, 3) := dB_36_1_40.1.1.2.1
theorem dX7_chooseForCut_8 : decode cX7_chooseForCut 8 = .ok (.aload_n 0, 1) := dB_36_1_40.1.1.2.2
theorem dX7_chooseForCut_9 : decode cX7_chooseForCut 9 = .ok (.getfield 24, 3) := dB_36_1_40.1.2.1.1
theorem dX7_chooseForCut_12 : decode cX7_chooseForCut 12 = .ok (.bipush (-9), 2) := dB_36_1_40.1.2.1.2
theorem dX7_chooseForCut_14 : decode cX7_chooseForCut 14 = .ok (.if_icmp .eq 4, 3) := dB_36_1_40.1.2.2.1
theorem dX7_chooseForCut_17 : decode cX7_chooseForCut 17 = .ok (.return_, 1) := dB_36_1_40.1.2.2.2
theorem dX7_chooseForCut_18 : decode cX7_chooseForCut 18 = .ok (.iload_n 1, 1) := dB_36_1_40.2.1.1.1
theorem dX7_chooseForCut_19 : decode cX7_chooseForCut 19 = .ok (.ifCond .ge 10, 3) := dB_36_1_40.2.1.1.2
theorem dX7_chooseForCut_22 : decode cX7_chooseForCut 22 = .ok (.aload_n 0, 1) := dB_36_1_40.2.1.2.1
theorem dX7_chooseForCut_23 : decode cX7_chooseForCut 23 = .ok (.iload_n 2, 1) := dB_36_1_40.2.1.2.2
theorem dX7_chooseForCut_24 : decode cX7_chooseForCut 24 = .ok (.iload_n 3, 1) := dB_36_1_40.2.2.1.1
theorem dX7_chooseForCut_25 : decode cX7_chooseForCut 25 = .ok (.invokevirtual 54, 3) := dB_36_1_40.2.2.1.2
theorem dX7_chooseForCut_28 : decode cX7_chooseForCut 28 = .ok (.return_, 1) := dB_36_1_40.2.2.2.1
theorem dX7_chooseForCut_29 : decode cX7_chooseForCut 29 = .ok (.iconst 1, 1) := dB_36_1_40.2.2.2.2
theorem dB_36_1_41 : ((((decode cX7_chooseForCut 30 = .ok (.iload_n 1, 1)) ∧ (decode cX7_chooseForCut 31 = .ok (.ishl, 1))) ∧ ((decode cX7_chooseForCut 32 = .ok (.istore 4, 2)) ∧ (decode cX7_chooseForCut 34 = .ok (.aload_n 0, 1)))) ∧ (((decode cX7_chooseForCut 35 = .ok (.getfield 27, 3)) ∧ (decode cX7_chooseForCut 38 = .ok (.iload 4, 2))) ∧ ((decode cX7_chooseForCut 40 = .ok (.iand, 1)) ∧ (decode cX7_chooseForCut 41 = .ok (.ifCond .ne 19, 3))))) ∧ ((((decode cX7_chooseForCut 44 = .ok (.aload_n 0, 1)) ∧ (decode cX7_chooseForCut 45 = .ok (.iload_n 1, 1))) ∧ ((decode cX7_chooseForCut 46 = .ok (.iconst 1, 1)) ∧ (decode cX7_chooseForCut 47 = .ok (.isub, 1)))) ∧ (((decode cX7_chooseForCut 48 = .ok (.iload_n 2, 1)) ∧ (decode cX7_chooseForCut 49 = .ok (.iload_n 3, 1))) ∧ ((decode cX7_chooseForCut 50 = .ok (.aload_n 0, 1)) ∧ (decode cX7_chooseForCut 51 = .ok (.iload_n 1, 1))))) := by first | decide +kernel | ((repeat' apply And.intro) <;> decide +kernel)
theorem dX7_chooseForCut_30 : decode cX7_chooseForCut 30 = .ok (.iload_n 1, 1) := dB_36_1_41.1.1.1.1
theorem dX7_chooseForCut_31 : decode cX7_chooseForCut 31 = .ok (.ishl, 1) := dB_36_1_41.1.1.1.2
theorem dX7_chooseForCut_32 : decode cX7_chooseForCut 32 = .ok (.istore 4, 2) := dB_36_1_41.1.1.2.1
theorem dX7_chooseForCut_34 : decode cX7_chooseForCut 34 = .ok (.aload_n 0, 1) := dB_36_1_41.1.1.2.2
theorem dX7_chooseForCut_35 : decode cX7_chooseForCut 35 = .ok (.getfield 27, 3) := dB_36_1_41.1.2.1.1
theorem dX7_chooseForCut_38 : decode cX7_chooseForCut 38 = .ok (.iload 4, 2) := dB_36_1_41.1.2.1.2
theorem dX7_chooseForCut_40 : decode cX7_chooseForCut 40 = .ok (.iand, 1) := dB_36_1_41.1.2.2.1
theorem dX7_chooseForCut_41 : decode cX7_chooseForCut 41 = .ok (.ifCond .ne 19, 3) := dB_36_1_41.1.2.2.2
theorem dX7_chooseForCut_44 : decode cX7_chooseForCut 44 = .ok (.aload_n 0, 1) := dB_36_1_41.2.1.1.1
theorem dX7_chooseForCut_45 : decode cX7_chooseForCut 45 = .ok (.iload_n 1, 1) := dB_36_1_41.2.1.1.2
theorem dX7_chooseForCut_46 : decode cX7_chooseForCut 46 = .ok (.iconst 1, 1) := dB_36_1_41.2.1.2.1
theorem dX7_chooseForCut_47 : decode cX7_chooseForCut 47 = .ok (.isub, 1) := dB_36_1_41.2.1.2.2
theorem dX7_chooseForCut_48 : decode cX7_chooseForCut 48 = .ok (.iload_n 2, 1) := dB_36_1_41.2.2.1.1
theorem dX7_chooseForCut_49 : decode cX7_chooseForCut 49 = .ok (.iload_n 3, 1) := dB_36_1_41.2.2.1.2
theorem dX7_chooseForCut_50 : decode cX7_chooseForCut 50 = .ok (.aload_n 0, 1) := dB_36_1_41.2.2.2.1
theorem dX7_chooseForCut_51 : decode cX7_chooseForCut 51 = .ok (.iload_n 1, 1) := dB_36_1_41.2.2.2.2
theorem dB_36_1_42 : ((((decode cX7_chooseForCut 52 = .ok (.iload_n 2, 1)) ∧ (decode cX7_chooseForCut 53 = .ok (.invokevirtual 58, 3))) ∧ ((decode cX7_chooseForCut 56 = .ok (.iadd, 1)) ∧ (decode cX7_chooseForCut 57 = .ok (.invokevirtual 50, 3)))) ∧ (((decode cX7_chooseForCut 60 = .ok (.aload_n 0, 1)) ∧ (decode cX7_chooseForCut 61 = .ok (.getfield 30, 3))) ∧ ((decode cX7_chooseForCut 64 = .ok (.iload 4, 2)) ∧ (decode cX7_chooseForCut 66 = .ok (.iand, 1))))) ∧ ((((decode cX7_chooseForCut 67 = .ok (.ifCond .ne 22, 3)) ∧ (decode cX7_chooseForCut 70 = .ok (.aload_n 0, 1))) ∧ ((decode cX7_chooseForCut 71 = .ok (.iload_n 1, 1)) ∧ (decode cX7_chooseForCut 72 = .ok (.iconst 1, 1)))) ∧ (((decode cX7_chooseForCut 73 = .ok (.isub, 1)) ∧ (decode cX7_chooseForCut 74 = .ok (.iload_n 2, 1))) ∧ ((decode cX7_chooseForCut 75 = .ok (.iload 4, 2)) ∧ (decode cX7_chooseForCut 77 = .ok (.ior, 1))))) := by first | decide +kernel | ((repeat' apply And.intro) <;> decide +kernel)
theorem dX7_chooseForCut_52 : decode cX7_chooseForCut 52 = .ok (.iload_n 2, 1) := dB_36_1_42.1.1.1.1
theorem dX7_chooseForCut_53 : decode cX7_chooseForCut 53 = .ok (.invokevirtual 58, 3) := dB_36_1_42.1.1.1.2
theorem dX7_chooseForCut_56 : decode cX7_chooseForCut 56 = .ok (.iadd, 1) := dB_36_1_42.1.1.2.1
theorem dX7_chooseForCut_57 : decode cX7_chooseForCut 57 = .ok (.invokevirtual 50, 3) := dB_36_1_42.1.1.2.2
theorem dX7_chooseForCut_60 : decode cX7_chooseForCut 60 = .ok (.aload_n 0, 1) := dB_36_1_42.1.2.1.1
theorem dX7_chooseForCut_61 : decode cX7_chooseForCut 61 = .ok (.getfield 30, 3) := dB_36_1_42.1.2.1.2
theorem dX7_chooseForCut_64 : decode cX7_chooseForCut 64 = .ok (.iload 4, 2) := dB_36_1_42.1.2.2.1
theorem dX7_chooseForCut_66 : decode cX7_chooseForCut 66 = .ok (.iand, 1) := dB_36_1_42.1.2.2.2
theorem dX7_chooseForCut_67 : decode cX7_chooseForCut 67 = .ok (.ifCond .ne 22, 3) := dB_36_1_42.2.1.1.1
theorem dX7_chooseForCut_70 : decode cX7_chooseForCut 70 = .ok (.aload_n 0, 1) := dB_36_1_42.2.1.1.2
theorem dX7_chooseForCut_71 : decode cX7_chooseForCut 71 = .ok (.iload_n 1, 1) := dB_36_1_42.2.1.2.1
theorem dX7_chooseForCut_72 : decode cX7_chooseForCut 72 = .ok (.iconst 1, 1) := dB_36_1_42.2.1.2.2
theorem dX7_chooseForCut_73 : decode cX7_chooseForCut 73 = .ok (.isub, 1) := dB_36_1_42.2.2.1.1
theorem dX7_chooseForCut_74 : decode cX7_chooseForCut 74 = .ok (.iload_n 2, 1) := dB_36_1_42.2.2.1.2
theorem dX7_chooseForCut_75 : decode cX7_chooseForCut 75 = .ok (.iload 4, 2) := dB_36_1_42.2.2.2.1
theorem dX7_chooseForCut_77 : decode cX7_chooseForCut 77 = .ok (.ior, 1) := dB_36_1_42.2.2.2.2
theorem dB_36_1_43 : ((((decode cX7_chooseForCut 78 = .ok (.iload_n 3, 1)) ∧ (decode cX7_chooseForCut 79 = .ok (.aload_n 0, 1))) ∧ ((decode cX7_chooseForCut 80 = .ok (.iload_n 1, 1)) ∧ (decode cX7_chooseForCut 81 = .ok (.iload_n 2, 1)))) ∧ (((decode cX7_chooseForCut 82 = .ok (.invokevirtual 62, 3)) ∧ (decode cX7_chooseForCut 85 = .ok (.iadd, 1))) ∧ ((decode cX7_chooseForCut 86 = .ok (.invokevirtual 50, 3)) ∧ (decode cX7_chooseForCut 89 = .ok (.return_, 1))))) ∧ ((((decode cX7_meet 0 = .ok (.iload_n 2, 1)) ∧ (decode cX7_meet 1 = .ok (.aload_n 0, 1))) ∧ ((decode cX7_meet 2 = .ok (.getfield 33, 3)) ∧ (decode cX7_meet 5 = .ok (.if_icmp .ne 7, 3)))) ∧ (((decode cX7_meet 8 = .ok (.iload_n 1, 1)) ∧ (decode cX7_meet 9 = .ok (.ifCond .ne 4, 3))) ∧ ((decode cX7_meet 12 = .ok (.return_, 1)) ∧ (decode cX7_meet 13 = .ok (.aload_n 0, 1))))) := by first | decide +kernel | ((repeat' apply And.intro) <;> decide +kernel)
theorem dX7_chooseForCut_78 : decode cX7_chooseForCut 78 = .ok (.iload_n 3, 1) := dB_36_1_43.1.1.1.1
theorem dX7_chooseForCut_79 : decode cX7_chooseForCut 79 = .ok (.aload_n 0, 1) := dB_36_1_43.1.1.1.2
theorem dX7_chooseForCut_80 : decode cX7_chooseForCut 80 = .ok (.iload_n 1, 1) := dB_36_1_43.1.1.2.1
theorem dX7_chooseForCut_81 : decode cX7_chooseForCut 81 = .ok (.iload_n 2, 1) := dB_36_1_43.1.1.2.2
theorem dX7_chooseForCut_82 : decode cX7_chooseForCut 82 = .ok (.invokevirtual 62, 3) := dB_36_1_43.1.2.1.1
theorem dX7_chooseForCut_85 : decode cX7_chooseForCut 85 = .ok (.iadd, 1) := dB_36_1_43.1.2.1.2
theorem dX7_chooseForCut_86 : decode cX7_chooseForCut 86 = .ok (.invokevirtual 50, 3) := dB_36_1_43.1.2.2.1
theorem dX7_chooseForCut_89 : decode cX7_chooseForCut 89 = .ok (.return_, 1) := dB_36_1_43.1.2.2.2
theorem dX7_meet_0 : decode cX7_meet 0 = .ok (.iload_n 2, 1) := dB_36_1_43.2.1.1.1
theorem dX7_meet_1 : decode cX7_meet 1 = .ok (.aload_n 0, 1) := dB_36_1_43.2.1.1.2
theorem dX7_meet_2 : decode cX7_meet 2 = .ok (.getfield 33, 3) := dB_36_1_43.2.1.2.1
theorem dX7_meet_5 : decode cX7_meet 5 = .ok (.if_icmp .ne 7, 3) := dB_36_1_43.2.1.2.2
theorem dX7_meet_8 : decode cX7_meet 8 = .ok (.iload_n 1, 1) := dB_36_1_43.2.2.1.1
theorem dX7_meet_9 : decode cX7_meet 9 = .ok (.ifCond .ne 4, 3) := dB_36_1_43.2.2.1.2
theorem dX7_meet_12 : decode cX7_meet 12 = .ok (.return_, 1) := dB_36_1_43.2.2.2.1
theorem dX7_meet_13 : decode cX7_meet 13 = .ok (.aload_n 0, 1) := dB_36_1_43.2.2.2.2
theorem dB_36_1_44 : ((((decode cX7_meet 14 = .ok (.getfield 20, 3)) ∧ (decode cX7_meet 17 = .ok (.aload_n 0, 1))) ∧ ((decode cX7_meet 18 = .ok (.getfield 36, 3)) ∧ (decode cX7_meet 21 = .ok (.if_icmp .ne 8, 3)))) ∧ (((decode cX7_meet 24 = .ok (.aload_n 0, 1)) ∧ (decode cX7_meet 25 = .ok (.iload_n 1, 1))) ∧ ((decode cX7_meet 26 = .ok (.putfield 24, 3)) ∧ (decode cX7_meet 29 = .ok (.aload_n 0, 1))))) ∧ ((((decode cX7_meet 30 = .ok (.dup, 1)) ∧ (decode cX7_meet 31 = .ok (.getfield 20, 3))) ∧ ((decode cX7_meet 34 = .ok (.iconst 1, 1)) ∧ (decode cX7_meet 35 = .ok (.iadd, 1)))) ∧ (((decode cX7_meet 36 = .ok (.putfield 20, 3)) ∧ (decode cX7_meet 39 = .ok (.return_, 1))) ∧ ((decode cX7_letIn 0 = .ok (.iconst 0, 1)) ∧ (decode cX7_letIn 1 = .ok (.istore_n 3, 1))))) := by first | decide +kernel | ((repeat' apply And.intro) <;> decide +kernel)
theorem dX7_meet_14 : decode cX7_meet 14 = .ok (.getfield 20, 3) := dB_36_1_44.1.1.1.1
theorem dX7_meet_17 : decode cX7_meet 17 = .ok (.aload_n 0, 1) := dB_36_1_44.1.1.1.2
theorem dX7_meet_18 : decode cX7_meet 18 = .ok (.getfield 36, 3) := dB_36_1_44.1.1.2.1
theorem dX7_meet_21 : decode cX7_meet 21 = .ok (.if_icmp .ne 8, 3) := dB_36_1_44.1.1.2.2
theorem dX7_meet_24 : decode cX7_meet 24 = .ok (.aload_n 0, 1) := dB_36_1_44.1.2.1.1
theorem dX7_meet_25 : decode cX7_meet 25 = .ok (.iload_n 1, 1) := dB_36_1_44.1.2.1.2
theorem dX7_meet_26 : decode cX7_meet 26 = .ok (.putfield 24, 3) := dB_36_1_44.1.2.2.1
theorem dX7_meet_29 : decode cX7_meet 29 = .ok (.aload_n 0, 1) := dB_36_1_44.1.2.2.2
theorem dX7_meet_30 : decode cX7_meet 30 = .ok (.dup, 1) := dB_36_1_44.2.1.1.1
theorem dX7_meet_31 : decode cX7_meet 31 = .ok (.getfield 20, 3) := dB_36_1_44.2.1.1.2
theorem dX7_meet_34 : decode cX7_meet 34 = .ok (.iconst 1, 1) := dB_36_1_44.2.1.2.1
theorem dX7_meet_35 : decode cX7_meet 35 = .ok (.iadd, 1) := dB_36_1_44.2.1.2.2
theorem dX7_meet_36 : decode cX7_meet 36 = .ok (.putfield 20, 3) := dB_36_1_44.2.2.1.1
theorem dX7_meet_39 : decode cX7_meet 39 = .ok (.return_, 1) := dB_36_1_44.2.2.1.2
theorem dX7_letIn_0 : decode cX7_letIn 0 = .ok (.iconst 0, 1) := dB_36_1_44.2.2.2.1
theorem dX7_letIn_1 : decode cX7_letIn 1 = .ok (.istore_n 3, 1) := dB_36_1_44.2.2.2.2
theorem dB_36_1_45 : ((((decode cX7_letIn 2 = .ok (.iload_n 1, 1)) ∧ (decode cX7_letIn 3 = .ok (.iconst 1, 1))) ∧ ((decode cX7_letIn 4 = .ok (.iadd, 1)) ∧ (decode cX7_letIn 5 = .ok (.istore 4, 2)))) ∧ (((decode cX7_letIn 7 = .ok (.iload 4, 2)) ∧ (decode cX7_letIn 9 = .ok (.aload_n 0, 1))) ∧ ((decode cX7_letIn 10 = .ok (.getfield 9, 3)) ∧ (decode cX7_letIn 13 = .ok (.getfield 39, 3))))) ∧ ((((decode cX7_letIn 16 = .ok (.getfield 45, 3)) ∧ (decode cX7_letIn 19 = .ok (.if_icmp .ge 34, 3))) ∧ ((decode cX7_letIn 22 = .ok (.iload_n 2, 1)) ∧ (decode cX7_letIn 23 = .ok (.iload 4, 2)))) ∧ (((decode cX7_letIn 25 = .ok (.ishr, 1)) ∧ (decode cX7_letIn 26 = .ok (.iconst 1, 1))) ∧ ((decode cX7_letIn 27 = .ok (.iand, 1)) ∧ (decode cX7_letIn 28 = .ok (.iconst 1, 1))))) := by first | decide +kernel | ((repeat' apply And.intro) <;> decide +kernel)
theorem dX7_letIn_2 : decode cX7_letIn 2 = .ok (.iload_n 1, 1) := dB_36_1_45.1.1.1.1
theorem dX7_letIn_3 : decode cX7_letIn 3 = .ok (.iconst 1, 1) := dB_36_1_45.1.1.1.2
theorem dX7_letIn_4 : decode cX7_letIn 4 = .ok (.iadd, 1) := dB_36_1_45.1.1.2.1
theorem dX7_letIn_5 : decode cX7_letIn 5 = .ok (.istore 4, 2) := dB_36_1_45.1.1.2.2
theorem dX7_letIn_7 : decode cX7_letIn 7 = .ok (.iload 4, 2) := dB_36_1_45.1.2.1.1
theorem dX7_letIn_9 : decode cX7_letIn 9 = .ok (.aload_n 0, 1) := dB_36_1_45.1.2.1.2
theorem dX7_letIn_10 : decode cX7_letIn 10 = .ok (.getfield 9, 3) := dB_36_1_45.1.2.2.1
theorem dX7_letIn_13 : decode cX7_letIn 13 = .ok (.getfield 39, 3) := dB_36_1_45.1.2.2.2
theorem dX7_letIn_16 : decode cX7_letIn 16 = .ok (.getfield 45, 3) := dB_36_1_45.2.1.1.1
theorem dX7_letIn_19 : decode cX7_letIn 19 = .ok (.if_icmp .ge 34, 3) := dB_36_1_45.2.1.1.2
theorem dX7_letIn_22 : decode cX7_letIn 22 = .ok (.iload_n 2, 1) := dB_36_1_45.2.1.2.1
theorem dX7_letIn_23 : decode cX7_letIn 23 = .ok (.iload 4, 2) := dB_36_1_45.2.1.2.2
theorem dX7_letIn_25 : decode cX7_letIn 25 = .ok (.ishr, 1) := dB_36_1_45.2.2.1.1
theorem dX7_letIn_26 : decode cX7_letIn 26 = .ok (.iconst 1, 1) := dB_36_1_45.2.2.1.2
theorem dX7_letIn_27 : decode cX7_letIn 27 = .ok (.iand, 1) := dB_36_1_45.2.2.2.1
theorem dX7_letIn_28 : decode cX7_letIn 28 = .ok (.iconst 1, 1) := dB_36_1_45.2.2.2.2
theorem dB_36_1_46 : ((((decode cX7_letIn 29 = .ok (.if_icmp .ne 18, 3)) ∧ (decode cX7_letIn 32 = .ok (.iload_n 3, 1))) ∧ ((decode cX7_letIn 33 = .ok (.aload_n 0, 1)) ∧ (decode cX7_letIn 34 = .ok (.getfield 9, 3)))) ∧ (((decode cX7_letIn 37 = .ok (.getfield 65, 3)) ∧ (decode cX7_letIn 40 = .ok (.iload 4, 2))) ∧ ((decode cX7_letIn 42 = .ok (.aaload, 1)) ∧ (decode cX7_letIn 43 = .ok (.iload_n 1, 1))))) ∧ ((((decode cX7_letIn 44 = .ok (.iaload, 1)) ∧ (decode cX7_letIn 45 = .ok (.iadd, 1))) ∧ ((decode cX7_letIn 46 = .ok (.istore_n 3, 1)) ∧ (decode cX7_letIn 47 = .ok (.iinc 4 1, 3)))) ∧ (((decode cX7_letIn 50 = .ok (.goto (-43), 3)) ∧ (decode cX7_letIn 53 = .ok (.iload_n 3, 1))) ∧ ((decode cX7_letIn 54 = .ok (.ireturn, 1)) ∧ (decode cX7_letOut 0 = .ok (.iconst 0, 1))))) := by first | decide +kernel | ((repeat' apply And.intro) <;> decide +kernel)
theorem dX7_letIn_29 : decode cX7_letIn 29 = .ok (.if_icmp .ne 18, 3) := dB_36_1_46.1.1.1.1
theorem dX7_letIn_32 : decode cX7_letIn 32 = .ok (.iload_n 3, 1) := dB_36_1_46.1.1.1.2
theorem dX7_letIn_33 : decode cX7_letIn 33 = .ok (.aload_n 0, 1) := dB_36_1_46.1.1.2.1
theorem dX7_letIn_34 : decode cX7_letIn 34 = .ok (.getfield 9, 3) := dB_36_1_46.1.1.2.2
theorem dX7_letIn_37 : decode cX7_letIn 37 = .ok (.getfield 65, 3) := dB_36_1_46.1.2.1.1
theorem dX7_letIn_40 : decode cX7_letIn 40 = .ok (.iload 4, 2) := dB_36_1_46.1.2.1.2
theorem dX7_letIn_42 : decode cX7_letIn 42 = .ok (.aaload, 1) := dB_36_1_46.1.2.2.1
theorem dX7_letIn_43 : decode cX7_letIn 43 = .ok (.iload_n 1, 1) := dB_36_1_46.1.2.2.2
theorem dX7_letIn_44 : decode cX7_letIn 44 = .ok (.iaload, 1) := dB_36_1_46.2.1.1.1
theorem dX7_letIn_45 : decode cX7_letIn 45 = .ok (.iadd, 1) := dB_36_1_46.2.1.1.2
theorem dX7_letIn_46 : decode cX7_letIn 46 = .ok (.istore_n 3, 1) := dB_36_1_46.2.1.2.1
theorem dX7_letIn_47 : decode cX7_letIn 47 = .ok (.iinc 4 1, 3) := dB_36_1_46.2.1.2.2
theorem dX7_letIn_50 : decode cX7_letIn 50 = .ok (.goto (-43), 3) := dB_36_1_46.2.2.1.1
theorem dX7_letIn_53 : decode cX7_letIn 53 = .ok (.iload_n 3, 1) := dB_36_1_46.2.2.1.2
theorem dX7_letIn_54 : decode cX7_letIn 54 = .ok (.ireturn, 1) := dB_36_1_46.2.2.2.1
theorem dX7_letOut_0 : decode cX7_letOut 0 = .ok (.iconst 0, 1) := dB_36_1_46.2.2.2.2
theorem dB_36_1_47 : ((((decode cX7_letOut 1 = .ok (.istore_n 3, 1)) ∧ (decode cX7_letOut 2 = .ok (.iload_n 1, 1))) ∧ ((decode cX7_letOut 3 = .ok (.iconst 1, 1)) ∧ (decode cX7_letOut 4 = .ok (.iadd, 1)))) ∧ (((decode cX7_letOut 5 = .ok (.istore 4, 2)) ∧ (decode cX7_letOut 7 = .ok (.iload 4, 2))) ∧ ((decode cX7_letOut 9 = .ok (.aload_n 0, 1)) ∧ (decode cX7_letOut 10 = .ok (.getfield 9, 3))))) ∧ ((((decode cX7_letOut 13 = .ok (.getfield 39, 3)) ∧ (decode cX7_letOut 16 = .ok (.getfield 45, 3))) ∧ ((decode cX7_letOut 19 = .ok (.if_icmp .ge 33, 3)) ∧ (decode cX7_letOut 22 = .ok (.iload_n 2, 1)))) ∧ (((decode cX7_letOut 23 = .ok (.iload 4, 2)) ∧ (decode cX7_letOut 25 = .ok (.ishr, 1))) ∧ ((decode cX7_letOut 26 = .ok (.iconst 1, 1)) ∧ (decode cX7_letOut 27 = .ok (.iand, 1))))) := by first | decide +kernel | ((repeat' apply And.intro) <;> decide +kernel)
theorem dX7_letOut_1 : decode cX7_letOut 1 = .ok (.istore_n 3, 1) := dB_36_1_47.1.1.1.1
theorem dX7_letOut_2 : decode cX7_letOut 2 = .ok (.iload_n 1, 1) := dB_36_1_47.1.1.1.2
theorem dX7_letOut_3 : decode cX7_letOut 3 = .ok (.iconst 1, 1) := dB_36_1_47.1.1.2.1
theorem dX7_letOut_4 : decode cX7_letOut 4 = .ok (.iadd, 1) := dB_36_1_47.1.1.2.2
theorem dX7_letOut_5 : decode cX7_letOut 5 = .ok (.istore 4, 2) := dB_36_1_47.1.2.1.1
theorem dX7_letOut_7 : decode cX7_letOut 7 = .ok (.iload 4, 2) := dB_36_1_47.1.2.1.2
theorem dX7_letOut_9 : decode cX7_letOut 9 = .ok (.aload_n 0, 1) := dB_36_1_47.1.2.2.1
theorem dX7_letOut_10 : decode cX7_letOut 10 = .ok (.getfield 9, 3) := dB_36_1_47.1.2.2.2
theorem dX7_letOut_13 : decode cX7_letOut 13 = .ok (.getfield 39, 3) := dB_36_1_47.2.1.1.1
theorem dX7_letOut_16 : decode cX7_letOut 16 = .ok (.getfield 45, 3) := dB_36_1_47.2.1.1.2
theorem dX7_letOut_19 : decode cX7_letOut 19 = .ok (.if_icmp .ge 33, 3) := dB_36_1_47.2.1.2.1
theorem dX7_letOut_22 : decode cX7_letOut 22 = .ok (.iload_n 2, 1) := dB_36_1_47.2.1.2.2
theorem dX7_letOut_23 : decode cX7_letOut 23 = .ok (.iload 4, 2) := dB_36_1_47.2.2.1.1
theorem dX7_letOut_25 : decode cX7_letOut 25 = .ok (.ishr, 1) := dB_36_1_47.2.2.1.2
theorem dX7_letOut_26 : decode cX7_letOut 26 = .ok (.iconst 1, 1) := dB_36_1_47.2.2.2.1
theorem dX7_letOut_27 : decode cX7_letOut 27 = .ok (.iand, 1) := dB_36_1_47.2.2.2.2
theorem dB_36_1_48 : ((((decode cX7_letOut 28 = .ok (.ifCond .ne 18, 3)) ∧ (decode cX7_letOut 31 = .ok (.iload_n 3, 1))) ∧ ((decode cX7_letOut 32 = .ok (.aload_n 0, 1)) ∧ (decode cX7_letOut 33 = .ok (.getfield 9, 3)))) ∧ (((decode cX7_letOut 36 = .ok (.getfield 65, 3)) ∧ (decode cX7_letOut 39 = .ok (.iload_n 1, 1))) ∧ ((decode cX7_letOut 40 = .ok (.aaload, 1)) ∧ (decode cX7_letOut 41 = .ok (.iload 4, 2))))) ∧ ((((decode cX7_letOut 43 = .ok (.iaload, 1)) ∧ (decode cX7_letOut 44 = .ok (.iadd, 1))) ∧ ((decode cX7_letOut 45 = .ok (.istore_n 3, 1)) ∧ (decode cX7_letOut 46 = .ok (.iinc 4 1, 3)))) ∧ (((decode cX7_letOut 49 = .ok (.goto (-42), 3)) ∧ (decode cX7_letOut 52 = .ok (.iload_n 3, 1))) ∧ ((decode cX7_letOut 53 = .ok (.ireturn, 1)) ∧ (decode cX7_findDensest 0 = .ok (.aload_n 0, 1))))) := by first | decide +kernel | ((repeat' apply And.intro) <;> decide +kernel)
theorem dX7_letOut_28 : decode cX7_letOut 28 = .ok (.ifCond .ne 18, 3) := dB_36_1_48.1.1.1.1
theorem dX7_letOut_31 : decode cX7_letOut 31 = .ok (.iload_n 3, 1) := dB_36_1_48.1.1.1.2
theorem dX7_letOut_32 : decode cX7_letOut 32 = .ok (.aload_n 0, 1) := dB_36_1_48.1.1.2.1
theorem dX7_letOut_33 : decode cX7_letOut 33 = .ok (.getfield 9, 3) := dB_36_1_48.1.1.2.2
theorem dX7_letOut_36 : decode cX7_letOut 36 = .ok (.getfield 65, 3) := dB_36_1_48.1.2.1.1
theorem dX7_letOut_39 : decode cX7_letOut 39 = .ok (.iload_n 1, 1) := dB_36_1_48.1.2.1.2
theorem dX7_letOut_40 : decode cX7_letOut 40 = .ok (.aaload, 1) := dB_36_1_48.1.2.2.1
theorem dX7_letOut_41 : decode cX7_letOut 41 = .ok (.iload 4, 2) := dB_36_1_48.1.2.2.2
theorem dX7_letOut_43 : decode cX7_letOut 43 = .ok (.iaload, 1) := dB_36_1_48.2.1.1.1
theorem dX7_letOut_44 : decode cX7_letOut 44 = .ok (.iadd, 1) := dB_36_1_48.2.1.1.2
theorem dX7_letOut_45 : decode cX7_letOut 45 = .ok (.istore_n 3, 1) := dB_36_1_48.2.1.2.1
theorem dX7_letOut_46 : decode cX7_letOut 46 = .ok (.iinc 4 1, 3) := dB_36_1_48.2.1.2.2
theorem dX7_letOut_49 : decode cX7_letOut 49 = .ok (.goto (-42), 3) := dB_36_1_48.2.2.1.1
theorem dX7_letOut_52 : decode cX7_letOut 52 = .ok (.iload_n 3, 1) := dB_36_1_48.2.2.1.2
theorem dX7_letOut_53 : decode cX7_letOut 53 = .ok (.ireturn, 1) := dB_36_1_48.2.2.2.1
theorem dX7_findDensest_0 : decode cX7_findDensest 0 = .ok (.aload_n 0, 1) := dB_36_1_48.2.2.2.2
theorem dB_36_1_49 : ((((decode cX7_findDensest 1 = .ok (.iconst 0, 1)) ∧ (decode cX7_findDensest 2 = .ok (.putfield 69, 3))) ∧ ((decode cX7_findDensest 5 = .ok (.aload_n 0, 1)) ∧ (decode cX7_findDensest 6 = .ok (.iconst 0, 1)))) ∧ (((decode cX7_findDensest 7 = .ok (.putfield 72, 3)) ∧ (decode cX7_findDensest 10 = .ok (.aload_n 0, 1))) ∧ ((decode cX7_findDensest 11 = .ok (.aload_n 0, 1)) ∧ (decode cX7_findDensest 12 = .ok (.getfield 9, 3))))) ∧ ((((decode cX7_findDensest 15 = .ok (.getfield 39, 3)) ∧ (decode cX7_findDensest 18 = .ok (.getfield 45, 3))) ∧ ((decode cX7_findDensest 21 = .ok (.iconst 1, 1)) ∧ (decode cX7_findDensest 22 = .ok (.isub, 1)))) ∧ (((decode cX7_findDensest 23 = .ok (.iconst 0, 1)) ∧ (decode cX7_findDensest 24 = .ok (.iconst 0, 1))) ∧ ((decode cX7_findDensest 25 = .ok (.invokevirtual 75, 3)) ∧ (decode cX7_findDensest 28 = .ok (.return_, 1))))) := by first | decide +kernel | ((repeat' apply And.intro) <;> decide +kernel)
theorem dX7_findDensest_1 : decode cX7_findDensest 1 = .ok (.iconst 0, 1) := dB_36_1_49.1.1.1.1
theorem dX7_findDensest_2 : decode cX7_findDensest 2 = .ok (.putfield 69, 3) := dB_36_1_49.1.1.1.2
theorem dX7_findDensest_5 : decode cX7_findDensest 5 = .ok (.aload_n 0, 1) := dB_36_1_49.1.1.2.1
theorem dX7_findDensest_6 : decode cX7_findDensest 6 = .ok (.iconst 0, 1) := dB_36_1_49.1.1.2.2
theorem dX7_findDensest_7 : decode cX7_findDensest 7 = .ok (.putfield 72, 3) := dB_36_1_49.1.2.1.1
theorem dX7_findDensest_10 : decode cX7_findDensest 10 = .ok (.aload_n 0, 1) := dB_36_1_49.1.2.1.2
theorem dX7_findDensest_11 : decode cX7_findDensest 11 = .ok (.aload_n 0, 1) := dB_36_1_49.1.2.2.1
theorem dX7_findDensest_12 : decode cX7_findDensest 12 = .ok (.getfield 9, 3) := dB_36_1_49.1.2.2.2
theorem dX7_findDensest_15 : decode cX7_findDensest 15 = .ok (.getfield 39, 3) := dB_36_1_49.2.1.1.1
theorem dX7_findDensest_18 : decode cX7_findDensest 18 = .ok (.getfield 45, 3) := dB_36_1_49.2.1.1.2
theorem dX7_findDensest_21 : decode cX7_findDensest 21 = .ok (.iconst 1, 1) := dB_36_1_49.2.1.2.1
theorem dX7_findDensest_22 : decode cX7_findDensest 22 = .ok (.isub, 1) := dB_36_1_49.2.1.2.2
theorem dX7_findDensest_23 : decode cX7_findDensest 23 = .ok (.iconst 0, 1) := dB_36_1_49.2.2.1.1
theorem dX7_findDensest_24 : decode cX7_findDensest 24 = .ok (.iconst 0, 1) := dB_36_1_49.2.2.1.2
theorem dX7_findDensest_25 : decode cX7_findDensest 25 = .ok (.invokevirtual 75, 3) := dB_36_1_49.2.2.2.1
theorem dX7_findDensest_28 : decode cX7_findDensest 28 = .ok (.return_, 1) := dB_36_1_49.2.2.2.2
theorem dB_36_1_50 : ((((decode cX7_chooseForDense 0 = .ok (.iload_n 1, 1)) ∧ (decode cX7_chooseForDense 1 = .ok (.ifCond .ge 10, 3))) ∧ ((decode cX7_chooseForDense 4 = .ok (.aload_n 0, 1)) ∧ (decode cX7_chooseForDense 5 = .ok (.iload_n 2, 1)))) ∧ (((decode cX7_chooseForDense 6 = .ok (.iload_n 3, 1)) ∧ (decode cX7_chooseForDense 7 = .ok (.invokevirtual 78, 3))) ∧ ((decode cX7_chooseForDense 10 = .ok (.return_, 1)) ∧ (decode cX7_chooseForDense 11 = .ok (.aload_n 0, 1))))) ∧ ((((decode cX7_chooseForDense 12 = .ok (.iload_n 1, 1)) ∧ (decode cX7_chooseForDense 13 = .ok (.iconst 1, 1))) ∧ ((decode cX7_chooseForDense 14 = .ok (.isub, 1)) ∧ (decode cX7_chooseForDense 15 = .ok (.iload_n 2, 1)))) ∧ (((decode cX7_chooseForDense 16 = .ok (.iload_n 3, 1)) ∧ (decode cX7_chooseForDense 17 = .ok (.invokevirtual 75, 3))) ∧ ((decode cX7_chooseForDense 20 = .ok (.aload_n 0, 1)) ∧ (decode cX7_chooseForDense 21 = .ok (.iload_n 1, 1))))) := by first | decide +kernel | ((repeat' apply And.intro) <;> decide +kernel)
theorem dX7_chooseForDense_0 : decode cX7_chooseForDense 0 = .ok (.iload_n 1, 1) := dB_36_1_50.1.1.1.1
theorem dX7_chooseForDense_1 : decode cX7_chooseForDense 1 = .ok (.ifCond .ge 10, 3) := dB_36_1_50.1.1.1.2
theorem dX7_chooseForDense_4 : decode cX7_chooseForDense 4 = .ok (.aload_n 0, 1) := dB_36_1_50.1.1.2.1
theorem dX7_chooseForDense_5 : decode cX7_chooseForDense 5 = .ok (.iload_n 2, 1) := dB_36_1_50.1.1.2.2
theorem dX7_chooseForDense_6 : decode cX7_chooseForDense 6 = .ok (.iload_n 3, 1) := dB_36_1_50.1.2.1.1
theorem dX7_chooseForDense_7 : decode cX7_chooseForDense 7 = .ok (.invokevirtual 78, 3) := dB_36_1_50.1.2.1.2
theorem dX7_chooseForDense_10 : decode cX7_chooseForDense 10 = .ok (.return_, 1) := dB_36_1_50.1.2.2.1
theorem dX7_chooseForDense_11 : decode cX7_chooseForDense 11 = .ok (.aload_n 0, 1) := dB_36_1_50.1.2.2.2
theorem dX7_chooseForDense_12 : decode cX7_chooseForDense 12 = .ok (.iload_n 1, 1) := dB_36_1_50.2.1.1.1
theorem dX7_chooseForDense_13 : decode cX7_chooseForDense 13 = .ok (.iconst 1, 1) := dB_36_1_50.2.1.1.2
theorem dX7_chooseForDense_14 : decode cX7_chooseForDense 14 = .ok (.isub, 1) := dB_36_1_50.2.1.2.1
theorem dX7_chooseForDense_15 : decode cX7_chooseForDense 15 = .ok (.iload_n 2, 1) := dB_36_1_50.2.1.2.2
theorem dX7_chooseForDense_16 : decode cX7_chooseForDense 16 = .ok (.iload_n 3, 1) := dB_36_1_50.2.2.1.1
theorem dX7_chooseForDense_17 : decode cX7_chooseForDense 17 = .ok (.invokevirtual 75, 3) := dB_36_1_50.2.2.1.2
theorem dX7_chooseForDense_20 : decode cX7_chooseForDense 20 = .ok (.aload_n 0, 1) := dB_36_1_50.2.2.2.1
theorem dX7_chooseForDense_21 : decode cX7_chooseForDense 21 = .ok (.iload_n 1, 1) := dB_36_1_50.2.2.2.2
theorem dB_36_1_51 : ((((decode cX7_chooseForDense 22 = .ok (.iconst 1, 1)) ∧ (decode cX7_chooseForDense 23 = .ok (.isub, 1))) ∧ ((decode cX7_chooseForDense 24 = .ok (.iload_n 2, 1)) ∧ (decode cX7_chooseForDense 25 = .ok (.iconst 1, 1)))) ∧ (((decode cX7_chooseForDense 26 = .ok (.iload_n 1, 1)) ∧ (decode cX7_chooseForDense 27 = .ok (.ishl, 1))) ∧ ((decode cX7_chooseForDense 28 = .ok (.ior, 1)) ∧ (decode cX7_chooseForDense 29 = .ok (.iload_n 3, 1))))) ∧ ((((decode cX7_chooseForDense 30 = .ok (.aload_n 0, 1)) ∧ (decode cX7_chooseForDense 31 = .ok (.iload_n 1, 1))) ∧ ((decode cX7_chooseForDense 32 = .ok (.iload_n 2, 1)) ∧ (decode cX7_chooseForDense 33 = .ok (.invokevirtual 58, 3)))) ∧ (((decode cX7_chooseForDense 36 = .ok (.iadd, 1)) ∧ (decode cX7_chooseForDense 37 = .ok (.invokevirtual 75, 3))) ∧ ((decode cX7_chooseForDense 40 = .ok (.return_, 1)) ∧ (decode cX7_compareDense 0 = .ok (.iload_n 1, 1))))) := by first | decide +kernel | ((repeat' apply And.intro) <;> decide +kernel)
theorem dX7_chooseForDense_22 : decode cX7_chooseForDense 22 = .ok (.iconst 1, 1) := dB_36_1_51.1.1.1.1
theorem dX7_chooseForDense_23 : decode cX7_chooseForDense 23 = .ok (.isub, 1) := dB_36_1_51.1.1.1.2
theorem dX7_chooseForDense_24 : decode cX7_chooseForDense 24 = .ok (.iload_n 2, 1) := dB_36_1_51.1.1.2.1
theorem dX7_chooseForDense_25 : decode cX7_chooseForDense 25 = .ok (.iconst 1, 1) := dB_36_1_51.1.1.2.2
theorem dX7_chooseForDense_26 : decode cX7_chooseForDense 26 = .ok (.iload_n 1, 1) := dB_36_1_51.1.2.1.1
theorem dX7_chooseForDense_27 : decode cX7_chooseForDense 27 = .ok (.ishl, 1) := dB_36_1_51.1.2.1.2
theorem dX7_chooseForDense_28 : decode cX7_chooseForDense 28 = .ok (.ior, 1) := dB_36_1_51.1.2.2.1
theorem dX7_chooseForDense_29 : decode cX7_chooseForDense 29 = .ok (.iload_n 3, 1) := dB_36_1_51.1.2.2.2
theorem dX7_chooseForDense_30 : decode cX7_chooseForDense 30 = .ok (.aload_n 0, 1) := dB_36_1_51.2.1.1.1
theorem dX7_chooseForDense_31 : decode cX7_chooseForDense 31 = .ok (.iload_n 1, 1) := dB_36_1_51.2.1.1.2
theorem dX7_chooseForDense_32 : decode cX7_chooseForDense 32 = .ok (.iload_n 2, 1) := dB_36_1_51.2.1.2.1
theorem dX7_chooseForDense_33 : decode cX7_chooseForDense 33 = .ok (.invokevirtual 58, 3) := dB_36_1_51.2.1.2.2
theorem dX7_chooseForDense_36 : decode cX7_chooseForDense 36 = .ok (.iadd, 1) := dB_36_1_51.2.2.1.1
theorem dX7_chooseForDense_37 : decode cX7_chooseForDense 37 = .ok (.invokevirtual 75, 3) := dB_36_1_51.2.2.1.2
theorem dX7_chooseForDense_40 : decode cX7_chooseForDense 40 = .ok (.return_, 1) := dB_36_1_51.2.2.2.1
theorem dX7_compareDense_0 : decode cX7_compareDense 0 = .ok (.iload_n 1, 1) := dB_36_1_51.2.2.2.2
theorem dB_36_1_52 : ((((decode cX7_compareDense 1 = .ok (.invokestatic 81, 3)) ∧ (decode cX7_compareDense 4 = .ok (.istore_n 3, 1))) ∧ ((decode cX7_compareDense 5 = .ok (.aload_n 0, 1)) ∧ (decode cX7_compareDense 6 = .ok (.getfield 69, 3)))) ∧ (((decode cX7_compareDense 9 = .ok (.invokestatic 81, 3)) ∧ (decode cX7_compareDense 12 = .ok (.istore 4, 2))) ∧ ((decode cX7_compareDense 14 = .ok (.iload_n 2, 1)) ∧ (decode cX7_compareDense 15 = .ok (.iload 4, 2))))) ∧ ((((decode cX7_compareDense 17 = .ok (.imul, 1)) ∧ (decode cX7_compareDense 18 = .ok (.istore 5, 2))) ∧ ((decode cX7_compareDense 20 = .ok (.aload_n 0, 1)) ∧ (decode cX7_compareDense 21 = .ok (.getfield 72, 3)))) ∧ (((decode cX7_compareDense 24 = .ok (.iload_n 3, 1)) ∧ (decode cX7_compareDense 25 = .ok (.imul, 1))) ∧ ((decode cX7_compareDense 26 = .ok (.istore 6, 2)) ∧ (decode cX7_compareDense 28 = .ok (.iload 5, 2))))) := by first | decide +kernel | ((repeat' apply And.intro) <;> decide +kernel)
theorem dX7_compareDense_1 : decode cX7_compareDense 1 = .ok (.invokestatic 81, 3) := dB_36_1_52.1.1.1.1
theorem dX7_compareDense_4 : decode cX7_compareDense 4 = .ok (.istore_n 3, 1) := dB_36_1_52.1.1.1.2
theorem dX7_compareDense_5 : decode cX7_compareDense 5 = .ok (.aload_n 0, 1) := dB_36_1_52.1.1.2.1
theorem dX7_compareDense_6 : decode cX7_compareDense 6 = .ok (.getfield 69, 3) := dB_36_1_52.1.1.2.2
theorem dX7_compareDense_9 : decode cX7_compareDense 9 = .ok (.invokestatic 81, 3) := dB_36_1_52.1.2.1.1
theorem dX7_compareDense_12 : decode cX7_compareDense 12 = .ok (.istore 4, 2) := dB_36_1_52.1.2.1.2
theorem dX7_compareDense_14 : decode cX7_compareDense 14 = .ok (.iload_n 2, 1) := dB_36_1_52.1.2.2.1
theorem dX7_compareDense_15 : decode cX7_compareDense 15 = .ok (.iload 4, 2) := dB_36_1_52.1.2.2.2
theorem dX7_compareDense_17 : decode cX7_compareDense 17 = .ok (.imul, 1) := dB_36_1_52.2.1.1.1
theorem dX7_compareDense_18 : decode cX7_compareDense 18 = .ok (.istore 5, 2) := dB_36_1_52.2.1.1.2
theorem dX7_compareDense_20 : decode cX7_compareDense 20 = .ok (.aload_n 0, 1) := dB_36_1_52.2.1.2.1
theorem dX7_compareDense_21 : decode cX7_compareDense 21 = .ok (.getfield 72, 3) := dB_36_1_52.2.1.2.2
theorem dX7_compareDense_24 : decode cX7_compareDense 24 = .ok (.iload_n 3, 1) := dB_36_1_52.2.2.1.1
theorem dX7_compareDense_25 : decode cX7_compareDense 25 = .ok (.imul, 1) := dB_36_1_52.2.2.1.2
theorem dX7_compareDense_26 : decode cX7_compareDense 26 = .ok (.istore 6, 2) := dB_36_1_52.2.2.2.1
theorem dX7_compareDense_28 : decode cX7_compareDense 28 = .ok (.iload 5, 2) := dB_36_1_52.2.2.2.2
theorem dB_36_1_53 : ((((decode cX7_compareDense 30 = .ok (.iload 6, 2)) ∧ (decode cX7_compareDense 32 = .ok (.if_icmp .gt 16, 3))) ∧ ((decode cX7_compareDense 35 = .ok (.iload 5, 2)) ∧ (decode cX7_compareDense 37 = .ok (.iload 6, 2)))) ∧ (((decode cX7_compareDense 39 = .ok (.if_icmp .ne 19, 3)) ∧ (decode cX7_compareDense 42 = .ok (.iload_n 3, 1))) ∧ ((decode cX7_compareDense 43 = .ok (.iload 4, 2)) ∧ (decode cX7_compareDense 45 = .ok (.if_icmp .le 13, 3))))) ∧ ((((decode cX7_compareDense 48 = .ok (.aload_n 0, 1)) ∧ (decode cX7_compareDense 49 = .ok (.iload_n 1, 1))) ∧ ((decode cX7_compareDense 50 = .ok (.putfield 69, 3)) ∧ (decode cX7_compareDense 53 = .ok (.aload_n 0, 1)))) ∧ (((decode cX7_compareDense 54 = .ok (.iload_n 2, 1)) ∧ (decode cX7_compareDense 55 = .ok (.putfield 72, 3))) ∧ ((decode cX7_compareDense 58 = .ok (.return_, 1)) ∧ (decode cX8_init 0 = .ok (.aload_n 0, 1))))) := by first | decide +kernel | ((repeat' apply And.intro) <;> decide +kernel)
theorem dX7_compareDense_30 : decode cX7_compareDense 30 = .ok (.iload 6, 2) := dB_36_1_53.1.1.1.1
theorem dX7_compareDense_32 : decode cX7_compareDense 32 = .ok (.if_icmp .gt 16, 3) := dB_36_1_53.1.1.1.2
theorem dX7_compareDense_35 : decode cX7_compareDense 35 = .ok (.iload 5, 2) := dB_36_1_53.1.1.2.1
theorem dX7_compareDense_37 : decode cX7_compareDense 37 = .ok (.iload 6, 2) := dB_36_1_53.1.1.2.2
theorem dX7_compareDense_39 : decode cX7_compareDense 39 = .ok (.if_icmp .ne 19, 3) := dB_36_1_53.1.2.1.1
theorem dX7_compareDense_42 : decode cX7_compareDense 42 = .ok (.iload_n 3, 1) := dB_36_1_53.1.2.1.2
theorem dX7_compareDense_43 : decode cX7_compareDense 43 = .ok (.iload 4, 2) := dB_36_1_53.1.2.2.1
theorem dX7_compareDense_45 : decode cX7_compareDense 45 = .ok (.if_icmp .le 13, 3) := dB_36_1_53.1.2.2.2
theorem dX7_compareDense_48 : decode cX7_compareDense 48 = .ok (.aload_n 0, 1) := dB_36_1_53.2.1.1.1
theorem dX7_compareDense_49 : decode cX7_compareDense 49 = .ok (.iload_n 1, 1) := dB_36_1_53.2.1.1.2
theorem dX7_compareDense_50 : decode cX7_compareDense 50 = .ok (.putfield 69, 3) := dB_36_1_53.2.1.2.1
theorem dX7_compareDense_53 : decode cX7_compareDense 53 = .ok (.aload_n 0, 1) := dB_36_1_53.2.1.2.2
theorem dX7_compareDense_54 : decode cX7_compareDense 54 = .ok (.iload_n 2, 1) := dB_36_1_53.2.2.1.1
theorem dX7_compareDense_55 : decode cX7_compareDense 55 = .ok (.putfield 72, 3) := dB_36_1_53.2.2.1.2
theorem dX7_compareDense_58 : decode cX7_compareDense 58 = .ok (.return_, 1) := dB_36_1_53.2.2.2.1
theorem dX8_init_0 : decode cX8_init 0 = .ok (.aload_n 0, 1) := dB_36_1_53.2.2.2.2
theorem dB_36_1_54 : ((((decode cX8_init 1 = .ok (.invokespecial 1, 3)) ∧ (decode cX8_init 4 = .ok (.return_, 1))) ∧ ((decode cX8_costs 0 = .ok (.aload_n 0, 1)) ∧ (decode cX8_costs 1 = .ok (.iload_n 1, 1)))) ∧ (((decode cX8_costs 2 = .ok (.invokespecial 7, 3)) ∧ (decode cX8_costs 5 = .ok (.iconst 1, 1))) ∧ ((decode cX8_costs 6 = .ok (.iadd, 1)) ∧ (decode cX8_costs 7 = .ok (.ireturn, 1))))) ∧ ((((decode cX8_costsMark 0 = .ok (.ldc 11, 2)) ∧ (decode cX8_costsMark 2 = .ok (.aload_n 0, 1))) ∧ ((decode cX8_costsMark 3 = .ok (.invokespecial 12, 3)) ∧ (decode cX8_costsMark 6 = .ok (.iadd, 1)))) ∧ (((decode cX8_costsMark 7 = .ok (.ireturn, 1)) ∧ (decode cX8_begins 0 = .ok (.iconst 0, 1))) ∧ ((decode cX8_begins 1 = .ok (.ireturn, 1)) ∧ (decode cX8_beginsMark 0 = .ok (.ldc 16, 2))))) := by first | decide +kernel | ((repeat' apply And.intro) <;> decide +kernel)
theorem dX8_init_1 : decode cX8_init 1 = .ok (.invokespecial 1, 3) := dB_36_1_54.1.1.1.1
theorem dX8_init_4 : decode cX8_init 4 = .ok (.return_, 1) := dB_36_1_54.1.1.1.2
theorem dX8_costs_0 : decode cX8_costs 0 = .ok (.aload_n 0, 1) := dB_36_1_54.1.1.2.1
theorem dX8_costs_1 : decode cX8_costs 1 = .ok (.iload_n 1, 1) := dB_36_1_54.1.1.2.2
theorem dX8_costs_2 : decode cX8_costs 2 = .ok (.invokespecial 7, 3) := dB_36_1_54.1.2.1.1
theorem dX8_costs_5 : decode cX8_costs 5 = .ok (.iconst 1, 1) := dB_36_1_54.1.2.1.2
theorem dX8_costs_6 : decode cX8_costs 6 = .ok (.iadd, 1) := dB_36_1_54.1.2.2.1
theorem dX8_costs_7 : decode cX8_costs 7 = .ok (.ireturn, 1) := dB_36_1_54.1.2.2.2
theorem dX8_costsMark_0 : decode cX8_costsMark 0 = .ok (.ldc 11, 2) := dB_36_1_54.2.1.1.1
theorem dX8_costsMark_2 : decode cX8_costsMark 2 = .ok (.aload_n 0, 1) := dB_36_1_54.2.1.1.2
theorem dX8_costsMark_3 : decode cX8_costsMark 3 = .ok (.invokespecial 12, 3) := dB_36_1_54.2.1.2.1
theorem dX8_costsMark_6 : decode cX8_costsMark 6 = .ok (.iadd, 1) := dB_36_1_54.2.1.2.2
theorem dX8_costsMark_7 : decode cX8_costsMark 7 = .ok (.ireturn, 1) := dB_36_1_54.2.2.1.1
theorem dX8_begins_0 : decode cX8_begins 0 = .ok (.iconst 0, 1) := dB_36_1_54.2.2.1.2
theorem dX8_begins_1 : decode cX8_begins 1 = .ok (.ireturn, 1) := dB_36_1_54.2.2.2.1
theorem dX8_beginsMark_0 : decode cX8_beginsMark 0 = .ok (.ldc 16, 2) := dB_36_1_54.2.2.2.2
theorem dB_36_1_55 : ((((decode cX8_beginsMark 2 = .ok (.ireturn, 1)) ∧ (decode cX9_init 0 = .ok (.aload_n 0, 1))) ∧ ((decode cX9_init 1 = .ok (.invokespecial 3, 3)) ∧ (decode cX9_init 4 = .ok (.return_, 1)))) ∧ (((decode cX9_lets 0 = .ok (.bipush (-5), 2)) ∧ (decode cX9_lets 2 = .ok (.ireturn, 1))) ∧ ((decode cX9_letsMark 0 = .ok (.bipush 100, 2)) ∧ (decode cX9_letsMark 2 = .ok (.ireturn, 1))))) ∧ ((((decode cX10_init 0 = .ok (.aload_n 0, 1)) ∧ (decode cX10_init 1 = .ok (.invokespecial 3, 3))) ∧ ((decode cX10_init 4 = .ok (.aload_n 0, 1)) ∧ (decode cX10_init 5 = .ok (.bipush 12, 2)))) ∧ (((decode cX10_init 7 = .ok (.bipush 12, 2)) ∧ (decode cX10_init 9 = .ok (.multianewarray 9 2, 4))) ∧ ((decode cX10_init 13 = .ok (.putfield 11, 3)) ∧ (decode cX10_init 16 = .ok (.aload_n 0, 1))))) := by first | decide +kernel | ((repeat' apply And.intro) <;> decide +kernel)
theorem dX8_beginsMark_2 : decode cX8_beginsMark 2 = .ok (.ireturn, 1) := dB_36_1_55.1.1.1.1
theorem dX9_init_0 : decode cX9_init 0 = .ok (.aload_n 0, 1) := dB_36_1_55.1.1.1.2
theorem dX9_init_1 : decode cX9_init 1 = .ok (.invokespecial 3, 3) := dB_36_1_55.1.1.2.1
theorem dX9_init_4 : decode cX9_init 4 = .ok (.return_, 1) := dB_36_1_55.1.1.2.2
theorem dX9_lets_0 : decode cX9_lets 0 = .ok (.bipush (-5), 2) := dB_36_1_55.1.2.1.1
theorem dX9_lets_2 : decode cX9_lets 2 = .ok (.ireturn, 1) := dB_36_1_55.1.2.1.2
theorem dX9_letsMark_0 : decode cX9_letsMark 0 = .ok (.bipush 100, 2) := dB_36_1_55.1.2.2.1
theorem dX9_letsMark_2 : decode cX9_letsMark 2 = .ok (.ireturn, 1) := dB_36_1_55.1.2.2.2
theorem dX10_init_0 : decode cX10_init 0 = .ok (.aload_n 0, 1) := dB_36_1_55.2.1.1.1
theorem dX10_init_1 : decode cX10_init 1 = .ok (.invokespecial 3, 3) := dB_36_1_55.2.1.1.2
theorem dX10_init_4 : decode cX10_init 4 = .ok (.aload_n 0, 1) := dB_36_1_55.2.1.2.1
theorem dX10_init_5 : decode cX10_init 5 = .ok (.bipush 12, 2) := dB_36_1_55.2.1.2.2
theorem dX10_init_7 : decode cX10_init 7 = .ok (.bipush 12, 2) := dB_36_1_55.2.2.1.1
theorem dX10_init_9 : decode cX10_init 9 = .ok (.multianewarray 9 2, 4) := dB_36_1_55.2.2.1.2
theorem dX10_init_13 : decode cX10_init 13 = .ok (.putfield 11, 3) := dB_36_1_55.2.2.2.1
theorem dX10_init_16 : decode cX10_init 16 = .ok (.aload_n 0, 1) := dB_36_1_55.2.2.2.2
theorem dB_36_1_56 : ((decode cX10_init 17 = .ok (.bipush 12, 2)) ∧ (decode cX10_init 19 = .ok (.newarray .int, 2))) ∧ ((decode cX10_init 21 = .ok (.putfield 16, 3)) ∧ (decode cX10_init 24 = .ok (.aload_n 0, 1))) := by first | decide +kernel | ((repeat' apply And.intro) <;> decide +kernel)
theorem dX10_init_17 : decode cX10_init 17 = .ok (.bipush 12, 2) := dB_36_1_56.1.1
theorem dX10_init_19 : decode cX10_init 19 = .ok (.newarray .int, 2) := dB_36_1_56.1.2
theorem dX10_init_21 : decode cX10_init 21 = .ok (.putfield 16, 3) := dB_36_1_56.2.1
theorem dX10_init_24 : decode cX10_init 24 = .ok (.aload_n 0, 1) := dB_36_1_56.2.2
