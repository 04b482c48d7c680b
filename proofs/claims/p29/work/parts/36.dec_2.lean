theorem dB_36_2_0 : ((((decode cX10_init 25 = .ok (.bipush 12, 2)) ∧ (decode cX10_init 27 = .ok (.newarray .int, 2))) ∧ ((decode cX10_init 29 = .ok (.putfield 20, 3)) ∧ (decode cX10_init 32 = .ok (.aload_n 0, 1)))) ∧ (((decode cX10_init 33 = .ok (.aload_n 1, 1)) ∧ (decode cX10_init 34 = .ok (.putfield 23, 3))) ∧ ((decode cX10_init 37 = .ok (.aload_n 0, 1)) ∧ (decode cX10_init 38 = .ok (.aload_n 2, 1))))) ∧ ((((decode cX10_init 39 = .ok (.putfield 27, 3)) ∧ (decode cX10_init 42 = .ok (.return_, 1))) ∧ ((decode cX10_pay 0 = .ok (.aload_n 0, 1)) ∧ (decode cX10_pay 1 = .ok (.invokevirtual 31, 3)))) ∧ (((decode cX10_pay 4 = .ok (.iload_n 3, 1)) ∧ (decode cX10_pay 5 = .ok (.istore 4, 2))) ∧ ((decode cX10_pay 7 = .ok (.iconst 0, 1)) ∧ (decode cX10_pay 8 = .ok (.istore 5, 2))))) := by first | decide +kernel | ((repeat' apply And.intro) <;> decide +kernel)
theorem dX10_init_25 : decode cX10_init 25 = .ok (.bipush 12, 2) := dB_36_2_0.1.1.1.1
theorem dX10_init_27 : decode cX10_init 27 = .ok (.newarray .int, 2) := dB_36_2_0.1.1.1.2
theorem dX10_init_29 : decode cX10_init 29 = .ok (.putfield 20, 3) := dB_36_2_0.1.1.2.1
theorem dX10_init_32 : decode cX10_init 32 = .ok (.aload_n 0, 1) := dB_36_2_0.1.1.2.2
theorem dX10_init_33 : decode cX10_init 33 = .ok (.aload_n 1, 1) := dB_36_2_0.1.2.1.1
theorem dX10_init_34 : decode cX10_init 34 = .ok (.putfield 23, 3) := dB_36_2_0.1.2.1.2
theorem dX10_init_37 : decode cX10_init 37 = .ok (.aload_n 0, 1) := dB_36_2_0.1.2.2.1
theorem dX10_init_38 : decode cX10_init 38 = .ok (.aload_n 2, 1) := dB_36_2_0.1.2.2.2
theorem dX10_init_39 : decode cX10_init 39 = .ok (.putfield 27, 3) := dB_36_2_0.2.1.1.1
theorem dX10_init_42 : decode cX10_init 42 = .ok (.return_, 1) := dB_36_2_0.2.1.1.2
theorem dX10_pay_0 : decode cX10_pay 0 = .ok (.aload_n 0, 1) := dB_36_2_0.2.1.2.1
theorem dX10_pay_1 : decode cX10_pay 1 = .ok (.invokevirtual 31, 3) := dB_36_2_0.2.1.2.2
theorem dX10_pay_4 : decode cX10_pay 4 = .ok (.iload_n 3, 1) := dB_36_2_0.2.2.1.1
theorem dX10_pay_5 : decode cX10_pay 5 = .ok (.istore 4, 2) := dB_36_2_0.2.2.1.2
theorem dX10_pay_7 : decode cX10_pay 7 = .ok (.iconst 0, 1) := dB_36_2_0.2.2.2.1
theorem dX10_pay_8 : decode cX10_pay 8 = .ok (.istore 5, 2) := dB_36_2_0.2.2.2.2
theorem dB_36_2_1 : ((((decode cX10_pay 10 = .ok (.iconst 0, 1)) ∧ (decode cX10_pay 11 = .ok (.istore 6, 2))) ∧ ((decode cX10_pay 13 = .ok (.iload 6, 2)) ∧ (decode cX10_pay 15 = .ok (.sipush 500, 3)))) ∧ (((decode cX10_pay 18 = .ok (.if_icmp .ge 72, 3)) ∧ (decode cX10_pay 21 = .ok (.iload 4, 2))) ∧ ((decode cX10_pay 23 = .ok (.ifCond .le 67, 3)) ∧ (decode cX10_pay 26 = .ok (.aload_n 0, 1))))) ∧ ((((decode cX10_pay 27 = .ok (.iload_n 1, 1)) ∧ (decode cX10_pay 28 = .ok (.invokevirtual 34, 3))) ∧ ((decode cX10_pay 31 = .ok (.aload_n 0, 1)) ∧ (decode cX10_pay 32 = .ok (.getfield 16, 3)))) ∧ (((decode cX10_pay 35 = .ok (.iload_n 2, 1)) ∧ (decode cX10_pay 36 = .ok (.iaload, 1))) ∧ ((decode cX10_pay 37 = .ok (.ldc 38, 2)) ∧ (decode cX10_pay 39 = .ok (.if_icmp .ne 6, 3))))) := by first | decide +kernel | ((repeat' apply And.intro) <;> decide +kernel)
theorem dX10_pay_10 : decode cX10_pay 10 = .ok (.iconst 0, 1) := dB_36_2_1.1.1.1.1
theorem dX10_pay_11 : decode cX10_pay 11 = .ok (.istore 6, 2) := dB_36_2_1.1.1.1.2
theorem dX10_pay_13 : decode cX10_pay 13 = .ok (.iload 6, 2) := dB_36_2_1.1.1.2.1
theorem dX10_pay_15 : decode cX10_pay 15 = .ok (.sipush 500, 3) := dB_36_2_1.1.1.2.2
theorem dX10_pay_18 : decode cX10_pay 18 = .ok (.if_icmp .ge 72, 3) := dB_36_2_1.1.2.1.1
theorem dX10_pay_21 : decode cX10_pay 21 = .ok (.iload 4, 2) := dB_36_2_1.1.2.1.2
theorem dX10_pay_23 : decode cX10_pay 23 = .ok (.ifCond .le 67, 3) := dB_36_2_1.1.2.2.1
theorem dX10_pay_26 : decode cX10_pay 26 = .ok (.aload_n 0, 1) := dB_36_2_1.1.2.2.2
theorem dX10_pay_27 : decode cX10_pay 27 = .ok (.iload_n 1, 1) := dB_36_2_1.2.1.1.1
theorem dX10_pay_28 : decode cX10_pay 28 = .ok (.invokevirtual 34, 3) := dB_36_2_1.2.1.1.2
theorem dX10_pay_31 : decode cX10_pay 31 = .ok (.aload_n 0, 1) := dB_36_2_1.2.1.2.1
theorem dX10_pay_32 : decode cX10_pay 32 = .ok (.getfield 16, 3) := dB_36_2_1.2.1.2.2
theorem dX10_pay_35 : decode cX10_pay 35 = .ok (.iload_n 2, 1) := dB_36_2_1.2.2.1.1
theorem dX10_pay_36 : decode cX10_pay 36 = .ok (.iaload, 1) := dB_36_2_1.2.2.1.2
theorem dX10_pay_37 : decode cX10_pay 37 = .ok (.ldc 38, 2) := dB_36_2_1.2.2.2.1
theorem dX10_pay_39 : decode cX10_pay 39 = .ok (.if_icmp .ne 6, 3) := dB_36_2_1.2.2.2.2
theorem dB_36_2_2 : ((((decode cX10_pay 42 = .ok (.bipush (-9), 2)) ∧ (decode cX10_pay 44 = .ok (.ireturn, 1))) ∧ ((decode cX10_pay 45 = .ok (.aload_n 0, 1)) ∧ (decode cX10_pay 46 = .ok (.iload_n 1, 1)))) ∧ (((decode cX10_pay 47 = .ok (.iload_n 2, 1)) ∧ (decode cX10_pay 48 = .ok (.iload 4, 2))) ∧ ((decode cX10_pay 50 = .ok (.invokevirtual 39, 3)) ∧ (decode cX10_pay 53 = .ok (.istore 7, 2))))) ∧ ((((decode cX10_pay 55 = .ok (.aload_n 0, 1)) ∧ (decode cX10_pay 56 = .ok (.iload_n 1, 1))) ∧ ((decode cX10_pay 57 = .ok (.iload_n 2, 1)) ∧ (decode cX10_pay 58 = .ok (.iload 7, 2)))) ∧ (((decode cX10_pay 60 = .ok (.invokevirtual 43, 3)) ∧ (decode cX10_pay 63 = .ok (.iload 5, 2))) ∧ ((decode cX10_pay 65 = .ok (.iload 7, 2)) ∧ (decode cX10_pay 67 = .ok (.aload_n 0, 1))))) := by first | decide +kernel | ((repeat' apply And.intro) <;> decide +kernel)
theorem dX10_pay_42 : decode cX10_pay 42 = .ok (.bipush (-9), 2) := dB_36_2_2.1.1.1.1
theorem dX10_pay_44 : decode cX10_pay 44 = .ok (.ireturn, 1) := dB_36_2_2.1.1.1.2
theorem dX10_pay_45 : decode cX10_pay 45 = .ok (.aload_n 0, 1) := dB_36_2_2.1.1.2.1
theorem dX10_pay_46 : decode cX10_pay 46 = .ok (.iload_n 1, 1) := dB_36_2_2.1.1.2.2
theorem dX10_pay_47 : decode cX10_pay 47 = .ok (.iload_n 2, 1) := dB_36_2_2.1.2.1.1
theorem dX10_pay_48 : decode cX10_pay 48 = .ok (.iload 4, 2) := dB_36_2_2.1.2.1.2
theorem dX10_pay_50 : decode cX10_pay 50 = .ok (.invokevirtual 39, 3) := dB_36_2_2.1.2.2.1
theorem dX10_pay_53 : decode cX10_pay 53 = .ok (.istore 7, 2) := dB_36_2_2.1.2.2.2
theorem dX10_pay_55 : decode cX10_pay 55 = .ok (.aload_n 0, 1) := dB_36_2_2.2.1.1.1
theorem dX10_pay_56 : decode cX10_pay 56 = .ok (.iload_n 1, 1) := dB_36_2_2.2.1.1.2
theorem dX10_pay_57 : decode cX10_pay 57 = .ok (.iload_n 2, 1) := dB_36_2_2.2.1.2.1
theorem dX10_pay_58 : decode cX10_pay 58 = .ok (.iload 7, 2) := dB_36_2_2.2.1.2.2
theorem dX10_pay_60 : decode cX10_pay 60 = .ok (.invokevirtual 43, 3) := dB_36_2_2.2.2.1.1
theorem dX10_pay_63 : decode cX10_pay 63 = .ok (.iload 5, 2) := dB_36_2_2.2.2.1.2
theorem dX10_pay_65 : decode cX10_pay 65 = .ok (.iload 7, 2) := dB_36_2_2.2.2.2.1
theorem dX10_pay_67 : decode cX10_pay 67 = .ok (.aload_n 0, 1) := dB_36_2_2.2.2.2.2
theorem dB_36_2_3 : ((((decode cX10_pay 68 = .ok (.getfield 16, 3)) ∧ (decode cX10_pay 71 = .ok (.iload_n 2, 1))) ∧ ((decode cX10_pay 72 = .ok (.iaload, 1)) ∧ (decode cX10_pay 73 = .ok (.imul, 1)))) ∧ (((decode cX10_pay 74 = .ok (.iadd, 1)) ∧ (decode cX10_pay 75 = .ok (.istore 5, 2))) ∧ ((decode cX10_pay 77 = .ok (.iload 4, 2)) ∧ (decode cX10_pay 79 = .ok (.iload 7, 2))))) ∧ ((((decode cX10_pay 81 = .ok (.isub, 1)) ∧ (decode cX10_pay 82 = .ok (.istore 4, 2))) ∧ ((decode cX10_pay 84 = .ok (.iinc 6 1, 3)) ∧ (decode cX10_pay 87 = .ok (.goto (-74), 3)))) ∧ (((decode cX10_pay 90 = .ok (.iload 5, 2)) ∧ (decode cX10_pay 92 = .ok (.ireturn, 1))) ∧ ((decode cX10_findPrices 0 = .ok (.aload_n 0, 1)) ∧ (decode cX10_findPrices 1 = .ok (.getfield 23, 3))))) := by first | decide +kernel | ((repeat' apply And.intro) <;> decide +kernel)
theorem dX10_pay_68 : decode cX10_pay 68 = .ok (.getfield 16, 3) := dB_36_2_3.1.1.1.1
theorem dX10_pay_71 : decode cX10_pay 71 = .ok (.iload_n 2, 1) := dB_36_2_3.1.1.1.2
theorem dX10_pay_72 : decode cX10_pay 72 = .ok (.iaload, 1) := dB_36_2_3.1.1.2.1
theorem dX10_pay_73 : decode cX10_pay 73 = .ok (.imul, 1) := dB_36_2_3.1.1.2.2
theorem dX10_pay_74 : decode cX10_pay 74 = .ok (.iadd, 1) := dB_36_2_3.1.2.1.1
theorem dX10_pay_75 : decode cX10_pay 75 = .ok (.istore 5, 2) := dB_36_2_3.1.2.1.2
theorem dX10_pay_77 : decode cX10_pay 77 = .ok (.iload 4, 2) := dB_36_2_3.1.2.2.1
theorem dX10_pay_79 : decode cX10_pay 79 = .ok (.iload 7, 2) := dB_36_2_3.1.2.2.2
theorem dX10_pay_81 : decode cX10_pay 81 = .ok (.isub, 1) := dB_36_2_3.2.1.1.1
theorem dX10_pay_82 : decode cX10_pay 82 = .ok (.istore 4, 2) := dB_36_2_3.2.1.1.2
theorem dX10_pay_84 : decode cX10_pay 84 = .ok (.iinc 6 1, 3) := dB_36_2_3.2.1.2.1
theorem dX10_pay_87 : decode cX10_pay 87 = .ok (.goto (-74), 3) := dB_36_2_3.2.1.2.2
theorem dX10_pay_90 : decode cX10_pay 90 = .ok (.iload 5, 2) := dB_36_2_3.2.2.1.1
theorem dX10_pay_92 : decode cX10_pay 92 = .ok (.ireturn, 1) := dB_36_2_3.2.2.1.2
theorem dX10_findPrices_0 : decode cX10_findPrices 0 = .ok (.aload_n 0, 1) := dB_36_2_3.2.2.2.1
theorem dX10_findPrices_1 : decode cX10_findPrices 1 = .ok (.getfield 23, 3) := dB_36_2_3.2.2.2.2
theorem dB_36_2_4 : ((((decode cX10_findPrices 4 = .ok (.getfield 47, 3)) ∧ (decode cX10_findPrices 7 = .ok (.astore_n 1, 1))) ∧ ((decode cX10_findPrices 8 = .ok (.iconst 0, 1)) ∧ (decode cX10_findPrices 9 = .ok (.istore_n 2, 1)))) ∧ (((decode cX10_findPrices 10 = .ok (.iload_n 2, 1)) ∧ (decode cX10_findPrices 11 = .ok (.aload_n 1, 1))) ∧ ((decode cX10_findPrices 12 = .ok (.getfield 53, 3)) ∧ (decode cX10_findPrices 15 = .ok (.if_icmp .ge 20, 3))))) ∧ ((((decode cX10_findPrices 18 = .ok (.aload_n 0, 1)) ∧ (decode cX10_findPrices 19 = .ok (.getfield 11, 3))) ∧ ((decode cX10_findPrices 22 = .ok (.iload_n 2, 1)) ∧ (decode cX10_findPrices 23 = .ok (.aaload, 1)))) ∧ (((decode cX10_findPrices 24 = .ok (.ldc 38, 2)) ∧ (decode cX10_findPrices 26 = .ok (.invokestatic 59, 3))) ∧ ((decode cX10_findPrices 29 = .ok (.iinc 2 1, 3)) ∧ (decode cX10_findPrices 32 = .ok (.goto (-22), 3))))) := by first | decide +kernel | ((repeat' apply And.intro) <;> decide +kernel)
theorem dX10_findPrices_4 : decode cX10_findPrices 4 = .ok (.getfield 47, 3) := dB_36_2_4.1.1.1.1
theorem dX10_findPrices_7 : decode cX10_findPrices 7 = .ok (.astore_n 1, 1) := dB_36_2_4.1.1.1.2
theorem dX10_findPrices_8 : decode cX10_findPrices 8 = .ok (.iconst 0, 1) := dB_36_2_4.1.1.2.1
theorem dX10_findPrices_9 : decode cX10_findPrices 9 = .ok (.istore_n 2, 1) := dB_36_2_4.1.1.2.2
theorem dX10_findPrices_10 : decode cX10_findPrices 10 = .ok (.iload_n 2, 1) := dB_36_2_4.1.2.1.1
theorem dX10_findPrices_11 : decode cX10_findPrices 11 = .ok (.aload_n 1, 1) := dB_36_2_4.1.2.1.2
theorem dX10_findPrices_12 : decode cX10_findPrices 12 = .ok (.getfield 53, 3) := dB_36_2_4.1.2.2.1
theorem dX10_findPrices_15 : decode cX10_findPrices 15 = .ok (.if_icmp .ge 20, 3) := dB_36_2_4.1.2.2.2
theorem dX10_findPrices_18 : decode cX10_findPrices 18 = .ok (.aload_n 0, 1) := dB_36_2_4.2.1.1.1
theorem dX10_findPrices_19 : decode cX10_findPrices 19 = .ok (.getfield 11, 3) := dB_36_2_4.2.1.1.2
theorem dX10_findPrices_22 : decode cX10_findPrices 22 = .ok (.iload_n 2, 1) := dB_36_2_4.2.1.2.1
theorem dX10_findPrices_23 : decode cX10_findPrices 23 = .ok (.aaload, 1) := dB_36_2_4.2.1.2.2
theorem dX10_findPrices_24 : decode cX10_findPrices 24 = .ok (.ldc 38, 2) := dB_36_2_4.2.2.1.1
theorem dX10_findPrices_26 : decode cX10_findPrices 26 = .ok (.invokestatic 59, 3) := dB_36_2_4.2.2.1.2
theorem dX10_findPrices_29 : decode cX10_findPrices 29 = .ok (.iinc 2 1, 3) := dB_36_2_4.2.2.2.1
theorem dX10_findPrices_32 : decode cX10_findPrices 32 = .ok (.goto (-22), 3) := dB_36_2_4.2.2.2.2
theorem dB_36_2_5 : ((((decode cX10_findPrices 35 = .ok (.iconst 0, 1)) ∧ (decode cX10_findPrices 36 = .ok (.istore_n 2, 1))) ∧ ((decode cX10_findPrices 37 = .ok (.iload_n 2, 1)) ∧ (decode cX10_findPrices 38 = .ok (.aload_n 1, 1)))) ∧ (((decode cX10_findPrices 39 = .ok (.getfield 65, 3)) ∧ (decode cX10_findPrices 42 = .ok (.if_icmp .ge 104, 3))) ∧ ((decode cX10_findPrices 45 = .ok (.aload_n 0, 1)) ∧ (decode cX10_findPrices 46 = .ok (.getfield 27, 3))))) ∧ ((((decode cX10_findPrices 49 = .ok (.aload_n 1, 1)) ∧ (decode cX10_findPrices 50 = .ok (.getfield 68, 3))) ∧ ((decode cX10_findPrices 53 = .ok (.iload_n 2, 1)) ∧ (decode cX10_findPrices 54 = .ok (.iaload, 1)))) ∧ (((decode cX10_findPrices 55 = .ok (.aaload, 1)) ∧ (decode cX10_findPrices 56 = .ok (.aload_n 1, 1))) ∧ ((decode cX10_findPrices 57 = .ok (.getfield 70, 3)) ∧ (decode cX10_findPrices 60 = .ok (.iload_n 2, 1))))) := by first | decide +kernel | ((repeat' apply And.intro) <;> decide +kernel)
theorem dX10_findPrices_35 : decode cX10_findPrices 35 = .ok (.iconst 0, 1) := dB_36_2_5.1.1.1.1
theorem dX10_findPrices_36 : decode cX10_findPrices 36 = .ok (.istore_n 2, 1) := dB_36_2_5.1.1.1.2
theorem dX10_findPrices_37 : decode cX10_findPrices 37 = .ok (.iload_n 2, 1) := dB_36_2_5.1.1.2.1
theorem dX10_findPrices_38 : decode cX10_findPrices 38 = .ok (.aload_n 1, 1) := dB_36_2_5.1.1.2.2
theorem dX10_findPrices_39 : decode cX10_findPrices 39 = .ok (.getfield 65, 3) := dB_36_2_5.1.2.1.1
theorem dX10_findPrices_42 : decode cX10_findPrices 42 = .ok (.if_icmp .ge 104, 3) := dB_36_2_5.1.2.1.2
theorem dX10_findPrices_45 : decode cX10_findPrices 45 = .ok (.aload_n 0, 1) := dB_36_2_5.1.2.2.1
theorem dX10_findPrices_46 : decode cX10_findPrices 46 = .ok (.getfield 27, 3) := dB_36_2_5.1.2.2.2
theorem dX10_findPrices_49 : decode cX10_findPrices 49 = .ok (.aload_n 1, 1) := dB_36_2_5.2.1.1.1
theorem dX10_findPrices_50 : decode cX10_findPrices 50 = .ok (.getfield 68, 3) := dB_36_2_5.2.1.1.2
theorem dX10_findPrices_53 : decode cX10_findPrices 53 = .ok (.iload_n 2, 1) := dB_36_2_5.2.1.2.1
theorem dX10_findPrices_54 : decode cX10_findPrices 54 = .ok (.iaload, 1) := dB_36_2_5.2.1.2.2
theorem dX10_findPrices_55 : decode cX10_findPrices 55 = .ok (.aaload, 1) := dB_36_2_5.2.2.1.1
theorem dX10_findPrices_56 : decode cX10_findPrices 56 = .ok (.aload_n 1, 1) := dB_36_2_5.2.2.1.2
theorem dX10_findPrices_57 : decode cX10_findPrices 57 = .ok (.getfield 70, 3) := dB_36_2_5.2.2.2.1
theorem dX10_findPrices_60 : decode cX10_findPrices 60 = .ok (.iload_n 2, 1) := dB_36_2_5.2.2.2.2
theorem dB_36_2_6 : ((((decode cX10_findPrices 61 = .ok (.iaload, 1)) ∧ (decode cX10_findPrices 62 = .ok (.invokevirtual 72, 3))) ∧ ((decode cX10_findPrices 65 = .ok (.istore_n 3, 1)) ∧ (decode cX10_findPrices 66 = .ok (.iload_n 3, 1)))) ∧ (((decode cX10_findPrices 67 = .ok (.bipush (-9), 2)) ∧ (decode cX10_findPrices 69 = .ok (.if_icmp .eq 71, 3))) ∧ ((decode cX10_findPrices 72 = .ok (.aload_n 1, 1)) ∧ (decode cX10_findPrices 73 = .ok (.iload_n 2, 1))))) ∧ ((((decode cX10_findPrices 74 = .ok (.invokevirtual 77, 3)) ∧ (decode cX10_findPrices 77 = .ok (.ifCond .ne 63, 3))) ∧ ((decode cX10_findPrices 80 = .ok (.aload_n 1, 1)) ∧ (decode cX10_findPrices 81 = .ok (.getfield 81, 3)))) ∧ (((decode cX10_findPrices 84 = .ok (.iload_n 2, 1)) ∧ (decode cX10_findPrices 85 = .ok (.iaload, 1))) ∧ ((decode cX10_findPrices 86 = .ok (.istore 4, 2)) ∧ (decode cX10_findPrices 88 = .ok (.aload_n 1, 1))))) := by first | decide +kernel | ((repeat' apply And.intro) <;> decide +kernel)
theorem dX10_findPrices_61 : decode cX10_findPrices 61 = .ok (.iaload, 1) := dB_36_2_6.1.1.1.1
theorem dX10_findPrices_62 : decode cX10_findPrices 62 = .ok (.invokevirtual 72, 3) := dB_36_2_6.1.1.1.2
theorem dX10_findPrices_65 : decode cX10_findPrices 65 = .ok (.istore_n 3, 1) := dB_36_2_6.1.1.2.1
theorem dX10_findPrices_66 : decode cX10_findPrices 66 = .ok (.iload_n 3, 1) := dB_36_2_6.1.1.2.2
theorem dX10_findPrices_67 : decode cX10_findPrices 67 = .ok (.bipush (-9), 2) := dB_36_2_6.1.2.1.1
theorem dX10_findPrices_69 : decode cX10_findPrices 69 = .ok (.if_icmp .eq 71, 3) := dB_36_2_6.1.2.1.2
theorem dX10_findPrices_72 : decode cX10_findPrices 72 = .ok (.aload_n 1, 1) := dB_36_2_6.1.2.2.1
theorem dX10_findPrices_73 : decode cX10_findPrices 73 = .ok (.iload_n 2, 1) := dB_36_2_6.1.2.2.2
theorem dX10_findPrices_74 : decode cX10_findPrices 74 = .ok (.invokevirtual 77, 3) := dB_36_2_6.2.1.1.1
theorem dX10_findPrices_77 : decode cX10_findPrices 77 = .ok (.ifCond .ne 63, 3) := dB_36_2_6.2.1.1.2
theorem dX10_findPrices_80 : decode cX10_findPrices 80 = .ok (.aload_n 1, 1) := dB_36_2_6.2.1.2.1
theorem dX10_findPrices_81 : decode cX10_findPrices 81 = .ok (.getfield 81, 3) := dB_36_2_6.2.1.2.2
theorem dX10_findPrices_84 : decode cX10_findPrices 84 = .ok (.iload_n 2, 1) := dB_36_2_6.2.2.1.1
theorem dX10_findPrices_85 : decode cX10_findPrices 85 = .ok (.iaload, 1) := dB_36_2_6.2.2.1.2
theorem dX10_findPrices_86 : decode cX10_findPrices 86 = .ok (.istore 4, 2) := dB_36_2_6.2.2.2.1
theorem dX10_findPrices_88 : decode cX10_findPrices 88 = .ok (.aload_n 1, 1) := dB_36_2_6.2.2.2.2
theorem dB_36_2_7 : ((((decode cX10_findPrices 89 = .ok (.getfield 84, 3)) ∧ (decode cX10_findPrices 92 = .ok (.iload_n 2, 1))) ∧ ((decode cX10_findPrices 93 = .ok (.iaload, 1)) ∧ (decode cX10_findPrices 94 = .ok (.istore 5, 2)))) ∧ (((decode cX10_findPrices 96 = .ok (.aload_n 0, 1)) ∧ (decode cX10_findPrices 97 = .ok (.getfield 11, 3))) ∧ ((decode cX10_findPrices 100 = .ok (.iload 4, 2)) ∧ (decode cX10_findPrices 102 = .ok (.aaload, 1))))) ∧ ((((decode cX10_findPrices 103 = .ok (.iload 5, 2)) ∧ (decode cX10_findPrices 105 = .ok (.aload_n 0, 1))) ∧ ((decode cX10_findPrices 106 = .ok (.getfield 11, 3)) ∧ (decode cX10_findPrices 109 = .ok (.iload 4, 2)))) ∧ (((decode cX10_findPrices 111 = .ok (.aaload, 1)) ∧ (decode cX10_findPrices 112 = .ok (.iload 5, 2))) ∧ ((decode cX10_findPrices 114 = .ok (.iaload, 1)) ∧ (decode cX10_findPrices 115 = .ok (.iload_n 3, 1))))) := by first | decide +kernel | ((repeat' apply And.intro) <;> decide +kernel)
theorem dX10_findPrices_89 : decode cX10_findPrices 89 = .ok (.getfield 84, 3) := dB_36_2_7.1.1.1.1
theorem dX10_findPrices_92 : decode cX10_findPrices 92 = .ok (.iload_n 2, 1) := dB_36_2_7.1.1.1.2
theorem dX10_findPrices_93 : decode cX10_findPrices 93 = .ok (.iaload, 1) := dB_36_2_7.1.1.2.1
theorem dX10_findPrices_94 : decode cX10_findPrices 94 = .ok (.istore 5, 2) := dB_36_2_7.1.1.2.2
theorem dX10_findPrices_96 : decode cX10_findPrices 96 = .ok (.aload_n 0, 1) := dB_36_2_7.1.2.1.1
theorem dX10_findPrices_97 : decode cX10_findPrices 97 = .ok (.getfield 11, 3) := dB_36_2_7.1.2.1.2
theorem dX10_findPrices_100 : decode cX10_findPrices 100 = .ok (.iload 4, 2) := dB_36_2_7.1.2.2.1
theorem dX10_findPrices_102 : decode cX10_findPrices 102 = .ok (.aaload, 1) := dB_36_2_7.1.2.2.2
theorem dX10_findPrices_103 : decode cX10_findPrices 103 = .ok (.iload 5, 2) := dB_36_2_7.2.1.1.1
theorem dX10_findPrices_105 : decode cX10_findPrices 105 = .ok (.aload_n 0, 1) := dB_36_2_7.2.1.1.2
theorem dX10_findPrices_106 : decode cX10_findPrices 106 = .ok (.getfield 11, 3) := dB_36_2_7.2.1.2.1
theorem dX10_findPrices_109 : decode cX10_findPrices 109 = .ok (.iload 4, 2) := dB_36_2_7.2.1.2.2
theorem dX10_findPrices_111 : decode cX10_findPrices 111 = .ok (.aaload, 1) := dB_36_2_7.2.2.1.1
theorem dX10_findPrices_112 : decode cX10_findPrices 112 = .ok (.iload 5, 2) := dB_36_2_7.2.2.1.2
theorem dX10_findPrices_114 : decode cX10_findPrices 114 = .ok (.iaload, 1) := dB_36_2_7.2.2.2.1
theorem dX10_findPrices_115 : decode cX10_findPrices 115 = .ok (.iload_n 3, 1) := dB_36_2_7.2.2.2.2
theorem dB_36_2_8 : ((((decode cX10_findPrices 116 = .ok (.invokestatic 87, 3)) ∧ (decode cX10_findPrices 119 = .ok (.iastore, 1))) ∧ ((decode cX10_findPrices 120 = .ok (.aload_n 0, 1)) ∧ (decode cX10_findPrices 121 = .ok (.getfield 11, 3)))) ∧ (((decode cX10_findPrices 124 = .ok (.iload 5, 2)) ∧ (decode cX10_findPrices 126 = .ok (.aaload, 1))) ∧ ((decode cX10_findPrices 127 = .ok (.iload 4, 2)) ∧ (decode cX10_findPrices 129 = .ok (.aload_n 0, 1))))) ∧ ((((decode cX10_findPrices 130 = .ok (.getfield 11, 3)) ∧ (decode cX10_findPrices 133 = .ok (.iload 4, 2))) ∧ ((decode cX10_findPrices 135 = .ok (.aaload, 1)) ∧ (decode cX10_findPrices 136 = .ok (.iload 5, 2)))) ∧ (((decode cX10_findPrices 138 = .ok (.iaload, 1)) ∧ (decode cX10_findPrices 139 = .ok (.iastore, 1))) ∧ ((decode cX10_findPrices 140 = .ok (.iinc 2 1, 3)) ∧ (decode cX10_findPrices 143 = .ok (.goto (-106), 3))))) := by first | decide +kernel | ((repeat' apply And.intro) <;> decide +kernel)
theorem dX10_findPrices_116 : decode cX10_findPrices 116 = .ok (.invokestatic 87, 3) := dB_36_2_8.1.1.1.1
theorem dX10_findPrices_119 : decode cX10_findPrices 119 = .ok (.iastore, 1) := dB_36_2_8.1.1.1.2
theorem dX10_findPrices_120 : decode cX10_findPrices 120 = .ok (.aload_n 0, 1) := dB_36_2_8.1.1.2.1
theorem dX10_findPrices_121 : decode cX10_findPrices 121 = .ok (.getfield 11, 3) := dB_36_2_8.1.1.2.2
theorem dX10_findPrices_124 : decode cX10_findPrices 124 = .ok (.iload 5, 2) := dB_36_2_8.1.2.1.1
theorem dX10_findPrices_126 : decode cX10_findPrices 126 = .ok (.aaload, 1) := dB_36_2_8.1.2.1.2
theorem dX10_findPrices_127 : decode cX10_findPrices 127 = .ok (.iload 4, 2) := dB_36_2_8.1.2.2.1
theorem dX10_findPrices_129 : decode cX10_findPrices 129 = .ok (.aload_n 0, 1) := dB_36_2_8.1.2.2.2
theorem dX10_findPrices_130 : decode cX10_findPrices 130 = .ok (.getfield 11, 3) := dB_36_2_8.2.1.1.1
theorem dX10_findPrices_133 : decode cX10_findPrices 133 = .ok (.iload 4, 2) := dB_36_2_8.2.1.1.2
theorem dX10_findPrices_135 : decode cX10_findPrices 135 = .ok (.aaload, 1) := dB_36_2_8.2.1.2.1
theorem dX10_findPrices_136 : decode cX10_findPrices 136 = .ok (.iload 5, 2) := dB_36_2_8.2.1.2.2
theorem dX10_findPrices_138 : decode cX10_findPrices 138 = .ok (.iaload, 1) := dB_36_2_8.2.2.1.1
theorem dX10_findPrices_139 : decode cX10_findPrices 139 = .ok (.iastore, 1) := dB_36_2_8.2.2.1.2
theorem dX10_findPrices_140 : decode cX10_findPrices 140 = .ok (.iinc 2 1, 3) := dB_36_2_8.2.2.2.1
theorem dX10_findPrices_143 : decode cX10_findPrices 143 = .ok (.goto (-106), 3) := dB_36_2_8.2.2.2.2
theorem dB_36_2_9 : ((((decode cX10_findPrices 146 = .ok (.return_, 1)) ∧ (decode cX10_findCosts 0 = .ok (.aload_n 0, 1))) ∧ ((decode cX10_findCosts 1 = .ok (.getfield 23, 3)) ∧ (decode cX10_findCosts 4 = .ok (.getfield 47, 3)))) ∧ (((decode cX10_findCosts 7 = .ok (.getfield 53, 3)) ∧ (decode cX10_findCosts 10 = .ok (.istore_n 2, 1))) ∧ ((decode cX10_findCosts 11 = .ok (.aload_n 0, 1)) ∧ (decode cX10_findCosts 12 = .ok (.getfield 16, 3))))) ∧ ((((decode cX10_findCosts 15 = .ok (.ldc 38, 2)) ∧ (decode cX10_findCosts 17 = .ok (.invokestatic 59, 3))) ∧ ((decode cX10_findCosts 20 = .ok (.aload_n 0, 1)) ∧ (decode cX10_findCosts 21 = .ok (.getfield 16, 3)))) ∧ (((decode cX10_findCosts 24 = .ok (.iload_n 1, 1)) ∧ (decode cX10_findCosts 25 = .ok (.iconst 0, 1))) ∧ ((decode cX10_findCosts 26 = .ok (.iastore, 1)) ∧ (decode cX10_findCosts 27 = .ok (.iconst 1, 1))))) := by first | decide +kernel | ((repeat' apply And.intro) <;> decide +kernel)
theorem dX10_findPrices_146 : decode cX10_findPrices 146 = .ok (.return_, 1) := dB_36_2_9.1.1.1.1
theorem dX10_findCosts_0 : decode cX10_findCosts 0 = .ok (.aload_n 0, 1) := dB_36_2_9.1.1.1.2
theorem dX10_findCosts_1 : decode cX10_findCosts 1 = .ok (.getfield 23, 3) := dB_36_2_9.1.1.2.1
theorem dX10_findCosts_4 : decode cX10_findCosts 4 = .ok (.getfield 47, 3) := dB_36_2_9.1.1.2.2
theorem dX10_findCosts_7 : decode cX10_findCosts 7 = .ok (.getfield 53, 3) := dB_36_2_9.1.2.1.1
theorem dX10_findCosts_10 : decode cX10_findCosts 10 = .ok (.istore_n 2, 1) := dB_36_2_9.1.2.1.2
theorem dX10_findCosts_11 : decode cX10_findCosts 11 = .ok (.aload_n 0, 1) := dB_36_2_9.1.2.2.1
theorem dX10_findCosts_12 : decode cX10_findCosts 12 = .ok (.getfield 16, 3) := dB_36_2_9.1.2.2.2
theorem dX10_findCosts_15 : decode cX10_findCosts 15 = .ok (.ldc 38, 2) := dB_36_2_9.2.1.1.1
theorem dX10_findCosts_17 : decode cX10_findCosts 17 = .ok (.invokestatic 59, 3) := dB_36_2_9.2.1.1.2
theorem dX10_findCosts_20 : decode cX10_findCosts 20 = .ok (.aload_n 0, 1) := dB_36_2_9.2.1.2.1
theorem dX10_findCosts_21 : decode cX10_findCosts 21 = .ok (.getfield 16, 3) := dB_36_2_9.2.1.2.2
theorem dX10_findCosts_24 : decode cX10_findCosts 24 = .ok (.iload_n 1, 1) := dB_36_2_9.2.2.1.1
theorem dX10_findCosts_25 : decode cX10_findCosts 25 = .ok (.iconst 0, 1) := dB_36_2_9.2.2.1.2
theorem dX10_findCosts_26 : decode cX10_findCosts 26 = .ok (.iastore, 1) := dB_36_2_9.2.2.2.1
theorem dX10_findCosts_27 : decode cX10_findCosts 27 = .ok (.iconst 1, 1) := dB_36_2_9.2.2.2.2
theorem dB_36_2_10 : ((((decode cX10_findCosts 28 = .ok (.istore_n 3, 1)) ∧ (decode cX10_findCosts 29 = .ok (.iconst 0, 1))) ∧ ((decode cX10_findCosts 30 = .ok (.istore 4, 2)) ∧ (decode cX10_findCosts 32 = .ok (.iload 4, 2)))) ∧ (((decode cX10_findCosts 34 = .ok (.iload_n 2, 1)) ∧ (decode cX10_findCosts 35 = .ok (.if_icmp .ge 53, 3))) ∧ ((decode cX10_findCosts 38 = .ok (.iload_n 3, 1)) ∧ (decode cX10_findCosts 39 = .ok (.ifCond .eq 49, 3))))) ∧ ((((decode cX10_findCosts 42 = .ok (.iconst 0, 1)) ∧ (decode cX10_findCosts 43 = .ok (.istore_n 3, 1))) ∧ ((decode cX10_findCosts 44 = .ok (.iconst 0, 1)) ∧ (decode cX10_findCosts 45 = .ok (.istore 5, 2)))) ∧ (((decode cX10_findCosts 47 = .ok (.iload 5, 2)) ∧ (decode cX10_findCosts 49 = .ok (.iload_n 2, 1))) ∧ ((decode cX10_findCosts 50 = .ok (.if_icmp .ge 32, 3)) ∧ (decode cX10_findCosts 53 = .ok (.aload_n 0, 1))))) := by first | decide +kernel | ((repeat' apply And.intro) <;> decide +kernel)
theorem dX10_findCosts_28 : decode cX10_findCosts 28 = .ok (.istore_n 3, 1) := dB_36_2_10.1.1.1.1
theorem dX10_findCosts_29 : decode cX10_findCosts 29 = .ok (.iconst 0, 1) := dB_36_2_10.1.1.1.2
theorem dX10_findCosts_30 : decode cX10_findCosts 30 = .ok (.istore 4, 2) := dB_36_2_10.1.1.2.1
theorem dX10_findCosts_32 : decode cX10_findCosts 32 = .ok (.iload 4, 2) := dB_36_2_10.1.1.2.2
theorem dX10_findCosts_34 : decode cX10_findCosts 34 = .ok (.iload_n 2, 1) := dB_36_2_10.1.2.1.1
theorem dX10_findCosts_35 : decode cX10_findCosts 35 = .ok (.if_icmp .ge 53, 3) := dB_36_2_10.1.2.1.2
theorem dX10_findCosts_38 : decode cX10_findCosts 38 = .ok (.iload_n 3, 1) := dB_36_2_10.1.2.2.1
theorem dX10_findCosts_39 : decode cX10_findCosts 39 = .ok (.ifCond .eq 49, 3) := dB_36_2_10.1.2.2.2
theorem dX10_findCosts_42 : decode cX10_findCosts 42 = .ok (.iconst 0, 1) := dB_36_2_10.2.1.1.1
theorem dX10_findCosts_43 : decode cX10_findCosts 43 = .ok (.istore_n 3, 1) := dB_36_2_10.2.1.1.2
theorem dX10_findCosts_44 : decode cX10_findCosts 44 = .ok (.iconst 0, 1) := dB_36_2_10.2.1.2.1
theorem dX10_findCosts_45 : decode cX10_findCosts 45 = .ok (.istore 5, 2) := dB_36_2_10.2.1.2.2
theorem dX10_findCosts_47 : decode cX10_findCosts 47 = .ok (.iload 5, 2) := dB_36_2_10.2.2.1.1
theorem dX10_findCosts_49 : decode cX10_findCosts 49 = .ok (.iload_n 2, 1) := dB_36_2_10.2.2.1.2
theorem dX10_findCosts_50 : decode cX10_findCosts 50 = .ok (.if_icmp .ge 32, 3) := dB_36_2_10.2.2.2.1
theorem dX10_findCosts_53 : decode cX10_findCosts 53 = .ok (.aload_n 0, 1) := dB_36_2_10.2.2.2.2
theorem dB_36_2_11 : ((((decode cX10_findCosts 54 = .ok (.getfield 16, 3)) ∧ (decode cX10_findCosts 57 = .ok (.iload 5, 2))) ∧ ((decode cX10_findCosts 59 = .ok (.iaload, 1)) ∧ (decode cX10_findCosts 60 = .ok (.ldc 38, 2)))) ∧ (((decode cX10_findCosts 62 = .ok (.if_icmp .eq 14, 3)) ∧ (decode cX10_findCosts 65 = .ok (.aload_n 0, 1))) ∧ ((decode cX10_findCosts 66 = .ok (.iload 5, 2)) ∧ (decode cX10_findCosts 68 = .ok (.invokevirtual 93, 3))))) ∧ ((((decode cX10_findCosts 71 = .ok (.ifCond .eq 5, 3)) ∧ (decode cX10_findCosts 74 = .ok (.iconst 1, 1))) ∧ ((decode cX10_findCosts 75 = .ok (.istore_n 3, 1)) ∧ (decode cX10_findCosts 76 = .ok (.iinc 5 1, 3)))) ∧ (((decode cX10_findCosts 79 = .ok (.goto (-32), 3)) ∧ (decode cX10_findCosts 82 = .ok (.iinc 4 1, 3))) ∧ ((decode cX10_findCosts 85 = .ok (.goto (-53), 3)) ∧ (decode cX10_findCosts 88 = .ok (.return_, 1))))) := by first | decide +kernel | ((repeat' apply And.intro) <;> decide +kernel)
theorem dX10_findCosts_54 : decode cX10_findCosts 54 = .ok (.getfield 16, 3) := dB_36_2_11.1.1.1.1
theorem dX10_findCosts_57 : decode cX10_findCosts 57 = .ok (.iload 5, 2) := dB_36_2_11.1.1.1.2
theorem dX10_findCosts_59 : decode cX10_findCosts 59 = .ok (.iaload, 1) := dB_36_2_11.1.1.2.1
theorem dX10_findCosts_60 : decode cX10_findCosts 60 = .ok (.ldc 38, 2) := dB_36_2_11.1.1.2.2
theorem dX10_findCosts_62 : decode cX10_findCosts 62 = .ok (.if_icmp .eq 14, 3) := dB_36_2_11.1.2.1.1
theorem dX10_findCosts_65 : decode cX10_findCosts 65 = .ok (.aload_n 0, 1) := dB_36_2_11.1.2.1.2
theorem dX10_findCosts_66 : decode cX10_findCosts 66 = .ok (.iload 5, 2) := dB_36_2_11.1.2.2.1
theorem dX10_findCosts_68 : decode cX10_findCosts 68 = .ok (.invokevirtual 93, 3) := dB_36_2_11.1.2.2.2
theorem dX10_findCosts_71 : decode cX10_findCosts 71 = .ok (.ifCond .eq 5, 3) := dB_36_2_11.2.1.1.1
theorem dX10_findCosts_74 : decode cX10_findCosts 74 = .ok (.iconst 1, 1) := dB_36_2_11.2.1.1.2
theorem dX10_findCosts_75 : decode cX10_findCosts 75 = .ok (.istore_n 3, 1) := dB_36_2_11.2.1.2.1
theorem dX10_findCosts_76 : decode cX10_findCosts 76 = .ok (.iinc 5 1, 3) := dB_36_2_11.2.1.2.2
theorem dX10_findCosts_79 : decode cX10_findCosts 79 = .ok (.goto (-32), 3) := dB_36_2_11.2.2.1.1
theorem dX10_findCosts_82 : decode cX10_findCosts 82 = .ok (.iinc 4 1, 3) := dB_36_2_11.2.2.1.2
theorem dX10_findCosts_85 : decode cX10_findCosts 85 = .ok (.goto (-53), 3) := dB_36_2_11.2.2.2.1
theorem dX10_findCosts_88 : decode cX10_findCosts 88 = .ok (.return_, 1) := dB_36_2_11.2.2.2.2
theorem dB_36_2_12 : ((((decode cX10_lookFrom 0 = .ok (.iconst 0, 1)) ∧ (decode cX10_lookFrom 1 = .ok (.istore_n 2, 1))) ∧ ((decode cX10_lookFrom 2 = .ok (.iconst 0, 1)) ∧ (decode cX10_lookFrom 3 = .ok (.istore_n 3, 1)))) ∧ (((decode cX10_lookFrom 4 = .ok (.iload_n 3, 1)) ∧ (decode cX10_lookFrom 5 = .ok (.aload_n 0, 1))) ∧ ((decode cX10_lookFrom 6 = .ok (.getfield 23, 3)) ∧ (decode cX10_lookFrom 9 = .ok (.getfield 47, 3))))) ∧ ((((decode cX10_lookFrom 12 = .ok (.getfield 53, 3)) ∧ (decode cX10_lookFrom 15 = .ok (.if_icmp .ge 76, 3))) ∧ ((decode cX10_lookFrom 18 = .ok (.iload_n 1, 1)) ∧ (decode cX10_lookFrom 19 = .ok (.iload_n 3, 1)))) ∧ (((decode cX10_lookFrom 20 = .ok (.if_icmp .ne 8, 3)) ∧ (decode cX10_lookFrom 23 = .ok (.ldc 38, 2))) ∧ ((decode cX10_lookFrom 25 = .ok (.goto 9, 3)) ∧ (decode cX10_lookFrom 28 = .ok (.aload_n 0, 1))))) := by first | decide +kernel | ((repeat' apply And.intro) <;> decide +kernel)
theorem dX10_lookFrom_0 : decode cX10_lookFrom 0 = .ok (.iconst 0, 1) := dB_36_2_12.1.1.1.1
theorem dX10_lookFrom_1 : decode cX10_lookFrom 1 = .ok (.istore_n 2, 1) := dB_36_2_12.1.1.1.2
theorem dX10_lookFrom_2 : decode cX10_lookFrom 2 = .ok (.iconst 0, 1) := dB_36_2_12.1.1.2.1
theorem dX10_lookFrom_3 : decode cX10_lookFrom 3 = .ok (.istore_n 3, 1) := dB_36_2_12.1.1.2.2
theorem dX10_lookFrom_4 : decode cX10_lookFrom 4 = .ok (.iload_n 3, 1) := dB_36_2_12.1.2.1.1
theorem dX10_lookFrom_5 : decode cX10_lookFrom 5 = .ok (.aload_n 0, 1) := dB_36_2_12.1.2.1.2
theorem dX10_lookFrom_6 : decode cX10_lookFrom 6 = .ok (.getfield 23, 3) := dB_36_2_12.1.2.2.1
theorem dX10_lookFrom_9 : decode cX10_lookFrom 9 = .ok (.getfield 47, 3) := dB_36_2_12.1.2.2.2
theorem dX10_lookFrom_12 : decode cX10_lookFrom 12 = .ok (.getfield 53, 3) := dB_36_2_12.2.1.1.1
theorem dX10_lookFrom_15 : decode cX10_lookFrom 15 = .ok (.if_icmp .ge 76, 3) := dB_36_2_12.2.1.1.2
theorem dX10_lookFrom_18 : decode cX10_lookFrom 18 = .ok (.iload_n 1, 1) := dB_36_2_12.2.1.2.1
theorem dX10_lookFrom_19 : decode cX10_lookFrom 19 = .ok (.iload_n 3, 1) := dB_36_2_12.2.1.2.2
theorem dX10_lookFrom_20 : decode cX10_lookFrom 20 = .ok (.if_icmp .ne 8, 3) := dB_36_2_12.2.2.1.1
theorem dX10_lookFrom_23 : decode cX10_lookFrom 23 = .ok (.ldc 38, 2) := dB_36_2_12.2.2.1.2
theorem dX10_lookFrom_25 : decode cX10_lookFrom 25 = .ok (.goto 9, 3) := dB_36_2_12.2.2.2.1
theorem dX10_lookFrom_28 : decode cX10_lookFrom 28 = .ok (.aload_n 0, 1) := dB_36_2_12.2.2.2.2
theorem dB_36_2_13 : ((((decode cX10_lookFrom 29 = .ok (.iload_n 1, 1)) ∧ (decode cX10_lookFrom 30 = .ok (.iload_n 3, 1))) ∧ ((decode cX10_lookFrom 31 = .ok (.invokevirtual 96, 3)) ∧ (decode cX10_lookFrom 34 = .ok (.istore 4, 2)))) ∧ (((decode cX10_lookFrom 36 = .ok (.iload 4, 2)) ∧ (decode cX10_lookFrom 38 = .ok (.ldc 38, 2))) ∧ ((decode cX10_lookFrom 40 = .ok (.if_icmp .eq 45, 3)) ∧ (decode cX10_lookFrom 43 = .ok (.aload_n 0, 1))))) ∧ ((((decode cX10_lookFrom 44 = .ok (.getfield 16, 3)) ∧ (decode cX10_lookFrom 47 = .ok (.iload_n 1, 1))) ∧ ((decode cX10_lookFrom 48 = .ok (.iaload, 1)) ∧ (decode cX10_lookFrom 49 = .ok (.iload 4, 2)))) ∧ (((decode cX10_lookFrom 51 = .ok (.iadd, 1)) ∧ (decode cX10_lookFrom 52 = .ok (.aload_n 0, 1))) ∧ ((decode cX10_lookFrom 53 = .ok (.getfield 16, 3)) ∧ (decode cX10_lookFrom 56 = .ok (.iload_n 3, 1))))) := by first | decide +kernel | ((repeat' apply And.intro) <;> decide +kernel)
theorem dX10_lookFrom_29 : decode cX10_lookFrom 29 = .ok (.iload_n 1, 1) := dB_36_2_13.1.1.1.1
theorem dX10_lookFrom_30 : decode cX10_lookFrom 30 = .ok (.iload_n 3, 1) := dB_36_2_13.1.1.1.2
theorem dX10_lookFrom_31 : decode cX10_lookFrom 31 = .ok (.invokevirtual 96, 3) := dB_36_2_13.1.1.2.1
theorem dX10_lookFrom_34 : decode cX10_lookFrom 34 = .ok (.istore 4, 2) := dB_36_2_13.1.1.2.2
theorem dX10_lookFrom_36 : decode cX10_lookFrom 36 = .ok (.iload 4, 2) := dB_36_2_13.1.2.1.1
theorem dX10_lookFrom_38 : decode cX10_lookFrom 38 = .ok (.ldc 38, 2) := dB_36_2_13.1.2.1.2
theorem dX10_lookFrom_40 : decode cX10_lookFrom 40 = .ok (.if_icmp .eq 45, 3) := dB_36_2_13.1.2.2.1
theorem dX10_lookFrom_43 : decode cX10_lookFrom 43 = .ok (.aload_n 0, 1) := dB_36_2_13.1.2.2.2
theorem dX10_lookFrom_44 : decode cX10_lookFrom 44 = .ok (.getfield 16, 3) := dB_36_2_13.2.1.1.1
theorem dX10_lookFrom_47 : decode cX10_lookFrom 47 = .ok (.iload_n 1, 1) := dB_36_2_13.2.1.1.2
theorem dX10_lookFrom_48 : decode cX10_lookFrom 48 = .ok (.iaload, 1) := dB_36_2_13.2.1.2.1
theorem dX10_lookFrom_49 : decode cX10_lookFrom 49 = .ok (.iload 4, 2) := dB_36_2_13.2.1.2.2
theorem dX10_lookFrom_51 : decode cX10_lookFrom 51 = .ok (.iadd, 1) := dB_36_2_13.2.2.1.1
theorem dX10_lookFrom_52 : decode cX10_lookFrom 52 = .ok (.aload_n 0, 1) := dB_36_2_13.2.2.1.2
theorem dX10_lookFrom_53 : decode cX10_lookFrom 53 = .ok (.getfield 16, 3) := dB_36_2_13.2.2.2.1
theorem dX10_lookFrom_56 : decode cX10_lookFrom 56 = .ok (.iload_n 3, 1) := dB_36_2_13.2.2.2.2
theorem dB_36_2_14 : ((((decode cX10_lookFrom 57 = .ok (.iaload, 1)) ∧ (decode cX10_lookFrom 58 = .ok (.if_icmp .ge 27, 3))) ∧ ((decode cX10_lookFrom 61 = .ok (.aload_n 0, 1)) ∧ (decode cX10_lookFrom 62 = .ok (.getfield 16, 3)))) ∧ (((decode cX10_lookFrom 65 = .ok (.iload_n 3, 1)) ∧ (decode cX10_lookFrom 66 = .ok (.aload_n 0, 1))) ∧ ((decode cX10_lookFrom 67 = .ok (.getfield 16, 3)) ∧ (decode cX10_lookFrom 70 = .ok (.iload_n 1, 1))))) ∧ ((((decode cX10_lookFrom 71 = .ok (.iaload, 1)) ∧ (decode cX10_lookFrom 72 = .ok (.iload 4, 2))) ∧ ((decode cX10_lookFrom 74 = .ok (.iadd, 1)) ∧ (decode cX10_lookFrom 75 = .ok (.iastore, 1)))) ∧ (((decode cX10_lookFrom 76 = .ok (.aload_n 0, 1)) ∧ (decode cX10_lookFrom 77 = .ok (.getfield 20, 3))) ∧ ((decode cX10_lookFrom 80 = .ok (.iload_n 3, 1)) ∧ (decode cX10_lookFrom 81 = .ok (.iload_n 1, 1))))) := by first | decide +kernel | ((repeat' apply And.intro) <;> decide +kernel)
theorem dX10_lookFrom_57 : decode cX10_lookFrom 57 = .ok (.iaload, 1) := dB_36_2_14.1.1.1.1
theorem dX10_lookFrom_58 : decode cX10_lookFrom 58 = .ok (.if_icmp .ge 27, 3) := dB_36_2_14.1.1.1.2
theorem dX10_lookFrom_61 : decode cX10_lookFrom 61 = .ok (.aload_n 0, 1) := dB_36_2_14.1.1.2.1
theorem dX10_lookFrom_62 : decode cX10_lookFrom 62 = .ok (.getfield 16, 3) := dB_36_2_14.1.1.2.2
theorem dX10_lookFrom_65 : decode cX10_lookFrom 65 = .ok (.iload_n 3, 1) := dB_36_2_14.1.2.1.1
theorem dX10_lookFrom_66 : decode cX10_lookFrom 66 = .ok (.aload_n 0, 1) := dB_36_2_14.1.2.1.2
theorem dX10_lookFrom_67 : decode cX10_lookFrom 67 = .ok (.getfield 16, 3) := dB_36_2_14.1.2.2.1
theorem dX10_lookFrom_70 : decode cX10_lookFrom 70 = .ok (.iload_n 1, 1) := dB_36_2_14.1.2.2.2
theorem dX10_lookFrom_71 : decode cX10_lookFrom 71 = .ok (.iaload, 1) := dB_36_2_14.2.1.1.1
theorem dX10_lookFrom_72 : decode cX10_lookFrom 72 = .ok (.iload 4, 2) := dB_36_2_14.2.1.1.2
theorem dX10_lookFrom_74 : decode cX10_lookFrom 74 = .ok (.iadd, 1) := dB_36_2_14.2.1.2.1
theorem dX10_lookFrom_75 : decode cX10_lookFrom 75 = .ok (.iastore, 1) := dB_36_2_14.2.1.2.2
theorem dX10_lookFrom_76 : decode cX10_lookFrom 76 = .ok (.aload_n 0, 1) := dB_36_2_14.2.2.1.1
theorem dX10_lookFrom_77 : decode cX10_lookFrom 77 = .ok (.getfield 20, 3) := dB_36_2_14.2.2.1.2
theorem dX10_lookFrom_80 : decode cX10_lookFrom 80 = .ok (.iload_n 3, 1) := dB_36_2_14.2.2.2.1
theorem dX10_lookFrom_81 : decode cX10_lookFrom 81 = .ok (.iload_n 1, 1) := dB_36_2_14.2.2.2.2
theorem dB_36_2_15 : ((((decode cX10_lookFrom 82 = .ok (.iastore, 1)) ∧ (decode cX10_lookFrom 83 = .ok (.iconst 1, 1))) ∧ ((decode cX10_lookFrom 84 = .ok (.istore_n 2, 1)) ∧ (decode cX10_lookFrom 85 = .ok (.iinc 3 1, 3)))) ∧ (((decode cX10_lookFrom 88 = .ok (.goto (-84), 3)) ∧ (decode cX10_lookFrom 91 = .ok (.iload_n 2, 1))) ∧ ((decode cX10_lookFrom 92 = .ok (.ireturn, 1)) ∧ (decode cX10_stepCosts 0 = .ok (.aload_n 0, 1))))) ∧ ((((decode cX10_stepCosts 1 = .ok (.getfield 23, 3)) ∧ (decode cX10_stepCosts 4 = .ok (.getfield 99, 3))) ∧ ((decode cX10_stepCosts 7 = .ok (.iload_n 2, 1)) ∧ (decode cX10_stepCosts 8 = .ok (.aaload, 1)))) ∧ (((decode cX10_stepCosts 9 = .ok (.iload_n 1, 1)) ∧ (decode cX10_stepCosts 10 = .ok (.iaload, 1))) ∧ ((decode cX10_stepCosts 11 = .ok (.ifCond .ge 13, 3)) ∧ (decode cX10_stepCosts 14 = .ok (.aload_n 0, 1))))) := by first | decide +kernel | ((repeat' apply And.intro) <;> decide +kernel)
theorem dX10_lookFrom_82 : decode cX10_lookFrom 82 = .ok (.iastore, 1) := dB_36_2_15.1.1.1.1
theorem dX10_lookFrom_83 : decode cX10_lookFrom 83 = .ok (.iconst 1, 1) := dB_36_2_15.1.1.1.2
theorem dX10_lookFrom_84 : decode cX10_lookFrom 84 = .ok (.istore_n 2, 1) := dB_36_2_15.1.1.2.1
theorem dX10_lookFrom_85 : decode cX10_lookFrom 85 = .ok (.iinc 3 1, 3) := dB_36_2_15.1.1.2.2
theorem dX10_lookFrom_88 : decode cX10_lookFrom 88 = .ok (.goto (-84), 3) := dB_36_2_15.1.2.1.1
theorem dX10_lookFrom_91 : decode cX10_lookFrom 91 = .ok (.iload_n 2, 1) := dB_36_2_15.1.2.1.2
theorem dX10_lookFrom_92 : decode cX10_lookFrom 92 = .ok (.ireturn, 1) := dB_36_2_15.1.2.2.1
theorem dX10_stepCosts_0 : decode cX10_stepCosts 0 = .ok (.aload_n 0, 1) := dB_36_2_15.1.2.2.2
theorem dX10_stepCosts_1 : decode cX10_stepCosts 1 = .ok (.getfield 23, 3) := dB_36_2_15.2.1.1.1
theorem dX10_stepCosts_4 : decode cX10_stepCosts 4 = .ok (.getfield 99, 3) := dB_36_2_15.2.1.1.2
theorem dX10_stepCosts_7 : decode cX10_stepCosts 7 = .ok (.iload_n 2, 1) := dB_36_2_15.2.1.2.1
theorem dX10_stepCosts_8 : decode cX10_stepCosts 8 = .ok (.aaload, 1) := dB_36_2_15.2.1.2.2
theorem dX10_stepCosts_9 : decode cX10_stepCosts 9 = .ok (.iload_n 1, 1) := dB_36_2_15.2.2.1.1
theorem dX10_stepCosts_10 : decode cX10_stepCosts 10 = .ok (.iaload, 1) := dB_36_2_15.2.2.1.2
theorem dX10_stepCosts_11 : decode cX10_stepCosts 11 = .ok (.ifCond .ge 13, 3) := dB_36_2_15.2.2.2.1
theorem dX10_stepCosts_14 : decode cX10_stepCosts 14 = .ok (.aload_n 0, 1) := dB_36_2_15.2.2.2.2
theorem dB_36_2_16 : ((((decode cX10_stepCosts 15 = .ok (.getfield 11, 3)) ∧ (decode cX10_stepCosts 18 = .ok (.iload_n 1, 1))) ∧ ((decode cX10_stepCosts 19 = .ok (.aaload, 1)) ∧ (decode cX10_stepCosts 20 = .ok (.iload_n 2, 1)))) ∧ (((decode cX10_stepCosts 21 = .ok (.iaload, 1)) ∧ (decode cX10_stepCosts 22 = .ok (.ineg, 1))) ∧ ((decode cX10_stepCosts 23 = .ok (.ireturn, 1)) ∧ (decode cX10_stepCosts 24 = .ok (.aload_n 0, 1))))) ∧ ((((decode cX10_stepCosts 25 = .ok (.getfield 23, 3)) ∧ (decode cX10_stepCosts 28 = .ok (.getfield 99, 3))) ∧ ((decode cX10_stepCosts 31 = .ok (.iload_n 1, 1)) ∧ (decode cX10_stepCosts 32 = .ok (.aaload, 1)))) ∧ (((decode cX10_stepCosts 33 = .ok (.iload_n 2, 1)) ∧ (decode cX10_stepCosts 34 = .ok (.iaload, 1))) ∧ ((decode cX10_stepCosts 35 = .ok (.ifCond .le 7, 3)) ∧ (decode cX10_stepCosts 38 = .ok (.iconst 0, 1))))) := by first | decide +kernel | ((repeat' apply And.intro) <;> decide +kernel)
theorem dX10_stepCosts_15 : decode cX10_stepCosts 15 = .ok (.getfield 11, 3) := dB_36_2_16.1.1.1.1
theorem dX10_stepCosts_18 : decode cX10_stepCosts 18 = .ok (.iload_n 1, 1) := dB_36_2_16.1.1.1.2
theorem dX10_stepCosts_19 : decode cX10_stepCosts 19 = .ok (.aaload, 1) := dB_36_2_16.1.1.2.1
theorem dX10_stepCosts_20 : decode cX10_stepCosts 20 = .ok (.iload_n 2, 1) := dB_36_2_16.1.1.2.2
theorem dX10_stepCosts_21 : decode cX10_stepCosts 21 = .ok (.iaload, 1) := dB_36_2_16.1.2.1.1
theorem dX10_stepCosts_22 : decode cX10_stepCosts 22 = .ok (.ineg, 1) := dB_36_2_16.1.2.1.2
theorem dX10_stepCosts_23 : decode cX10_stepCosts 23 = .ok (.ireturn, 1) := dB_36_2_16.1.2.2.1
theorem dX10_stepCosts_24 : decode cX10_stepCosts 24 = .ok (.aload_n 0, 1) := dB_36_2_16.1.2.2.2
theorem dX10_stepCosts_25 : decode cX10_stepCosts 25 = .ok (.getfield 23, 3) := dB_36_2_16.2.1.1.1
theorem dX10_stepCosts_28 : decode cX10_stepCosts 28 = .ok (.getfield 99, 3) := dB_36_2_16.2.1.1.2
theorem dX10_stepCosts_31 : decode cX10_stepCosts 31 = .ok (.iload_n 1, 1) := dB_36_2_16.2.1.2.1
theorem dX10_stepCosts_32 : decode cX10_stepCosts 32 = .ok (.aaload, 1) := dB_36_2_16.2.1.2.2
theorem dX10_stepCosts_33 : decode cX10_stepCosts 33 = .ok (.iload_n 2, 1) := dB_36_2_16.2.2.1.1
theorem dX10_stepCosts_34 : decode cX10_stepCosts 34 = .ok (.iaload, 1) := dB_36_2_16.2.2.1.2
theorem dX10_stepCosts_35 : decode cX10_stepCosts 35 = .ok (.ifCond .le 7, 3) := dB_36_2_16.2.2.2.1
theorem dX10_stepCosts_38 : decode cX10_stepCosts 38 = .ok (.iconst 0, 1) := dB_36_2_16.2.2.2.2
theorem dB_36_2_17 : ((((decode cX10_stepCosts 39 = .ok (.goto 11, 3)) ∧ (decode cX10_stepCosts 42 = .ok (.aload_n 0, 1))) ∧ ((decode cX10_stepCosts 43 = .ok (.getfield 11, 3)) ∧ (decode cX10_stepCosts 46 = .ok (.iload_n 1, 1)))) ∧ (((decode cX10_stepCosts 47 = .ok (.aaload, 1)) ∧ (decode cX10_stepCosts 48 = .ok (.iload_n 2, 1))) ∧ ((decode cX10_stepCosts 49 = .ok (.iaload, 1)) ∧ (decode cX10_stepCosts 50 = .ok (.ireturn, 1))))) ∧ ((((decode cX10_stepRoom 0 = .ok (.aload_n 0, 1)) ∧ (decode cX10_stepRoom 1 = .ok (.getfield 23, 3))) ∧ ((decode cX10_stepRoom 4 = .ok (.getfield 99, 3)) ∧ (decode cX10_stepRoom 7 = .ok (.iload_n 2, 1)))) ∧ (((decode cX10_stepRoom 8 = .ok (.aaload, 1)) ∧ (decode cX10_stepRoom 9 = .ok (.iload_n 1, 1))) ∧ ((decode cX10_stepRoom 10 = .ok (.iaload, 1)) ∧ (decode cX10_stepRoom 11 = .ok (.ifCond .ge 16, 3))))) := by first | decide +kernel | ((repeat' apply And.intro) <;> decide +kernel)
theorem dX10_stepCosts_39 : decode cX10_stepCosts 39 = .ok (.goto 11, 3) := dB_36_2_17.1.1.1.1
theorem dX10_stepCosts_42 : decode cX10_stepCosts 42 = .ok (.aload_n 0, 1) := dB_36_2_17.1.1.1.2
theorem dX10_stepCosts_43 : decode cX10_stepCosts 43 = .ok (.getfield 11, 3) := dB_36_2_17.1.1.2.1
theorem dX10_stepCosts_46 : decode cX10_stepCosts 46 = .ok (.iload_n 1, 1) := dB_36_2_17.1.1.2.2
theorem dX10_stepCosts_47 : decode cX10_stepCosts 47 = .ok (.aaload, 1) := dB_36_2_17.1.2.1.1
theorem dX10_stepCosts_48 : decode cX10_stepCosts 48 = .ok (.iload_n 2, 1) := dB_36_2_17.1.2.1.2
theorem dX10_stepCosts_49 : decode cX10_stepCosts 49 = .ok (.iaload, 1) := dB_36_2_17.1.2.2.1
theorem dX10_stepCosts_50 : decode cX10_stepCosts 50 = .ok (.ireturn, 1) := dB_36_2_17.1.2.2.2
theorem dX10_stepRoom_0 : decode cX10_stepRoom 0 = .ok (.aload_n 0, 1) := dB_36_2_17.2.1.1.1
theorem dX10_stepRoom_1 : decode cX10_stepRoom 1 = .ok (.getfield 23, 3) := dB_36_2_17.2.1.1.2
theorem dX10_stepRoom_4 : decode cX10_stepRoom 4 = .ok (.getfield 99, 3) := dB_36_2_17.2.1.2.1
theorem dX10_stepRoom_7 : decode cX10_stepRoom 7 = .ok (.iload_n 2, 1) := dB_36_2_17.2.1.2.2
theorem dX10_stepRoom_8 : decode cX10_stepRoom 8 = .ok (.aaload, 1) := dB_36_2_17.2.2.1.1
theorem dX10_stepRoom_9 : decode cX10_stepRoom 9 = .ok (.iload_n 1, 1) := dB_36_2_17.2.2.1.2
theorem dX10_stepRoom_10 : decode cX10_stepRoom 10 = .ok (.iaload, 1) := dB_36_2_17.2.2.2.1
theorem dX10_stepRoom_11 : decode cX10_stepRoom 11 = .ok (.ifCond .ge 16, 3) := dB_36_2_17.2.2.2.2
theorem dB_36_2_18 : ((((decode cX10_stepRoom 14 = .ok (.aload_n 0, 1)) ∧ (decode cX10_stepRoom 15 = .ok (.getfield 23, 3))) ∧ ((decode cX10_stepRoom 18 = .ok (.getfield 99, 3)) ∧ (decode cX10_stepRoom 21 = .ok (.iload_n 2, 1)))) ∧ (((decode cX10_stepRoom 22 = .ok (.aaload, 1)) ∧ (decode cX10_stepRoom 23 = .ok (.iload_n 1, 1))) ∧ ((decode cX10_stepRoom 24 = .ok (.iaload, 1)) ∧ (decode cX10_stepRoom 25 = .ok (.ineg, 1))))) ∧ ((((decode cX10_stepRoom 26 = .ok (.ireturn, 1)) ∧ (decode cX10_stepRoom 27 = .ok (.aload_n 0, 1))) ∧ ((decode cX10_stepRoom 28 = .ok (.getfield 23, 3)) ∧ (decode cX10_stepRoom 31 = .ok (.getfield 99, 3)))) ∧ (((decode cX10_stepRoom 34 = .ok (.iload_n 1, 1)) ∧ (decode cX10_stepRoom 35 = .ok (.aaload, 1))) ∧ ((decode cX10_stepRoom 36 = .ok (.iload_n 2, 1)) ∧ (decode cX10_stepRoom 37 = .ok (.iaload, 1))))) := by first | decide +kernel | ((repeat' apply And.intro) <;> decide +kernel)
theorem dX10_stepRoom_14 : decode cX10_stepRoom 14 = .ok (.aload_n 0, 1) := dB_36_2_18.1.1.1.1
theorem dX10_stepRoom_15 : decode cX10_stepRoom 15 = .ok (.getfield 23, 3) := dB_36_2_18.1.1.1.2
theorem dX10_stepRoom_18 : decode cX10_stepRoom 18 = .ok (.getfield 99, 3) := dB_36_2_18.1.1.2.1
theorem dX10_stepRoom_21 : decode cX10_stepRoom 21 = .ok (.iload_n 2, 1) := dB_36_2_18.1.1.2.2
theorem dX10_stepRoom_22 : decode cX10_stepRoom 22 = .ok (.aaload, 1) := dB_36_2_18.1.2.1.1
theorem dX10_stepRoom_23 : decode cX10_stepRoom 23 = .ok (.iload_n 1, 1) := dB_36_2_18.1.2.1.2
theorem dX10_stepRoom_24 : decode cX10_stepRoom 24 = .ok (.iaload, 1) := dB_36_2_18.1.2.2.1
theorem dX10_stepRoom_25 : decode cX10_stepRoom 25 = .ok (.ineg, 1) := dB_36_2_18.1.2.2.2
theorem dX10_stepRoom_26 : decode cX10_stepRoom 26 = .ok (.ireturn, 1) := dB_36_2_18.2.1.1.1
theorem dX10_stepRoom_27 : decode cX10_stepRoom 27 = .ok (.aload_n 0, 1) := dB_36_2_18.2.1.1.2
theorem dX10_stepRoom_28 : decode cX10_stepRoom 28 = .ok (.getfield 23, 3) := dB_36_2_18.2.1.2.1
theorem dX10_stepRoom_31 : decode cX10_stepRoom 31 = .ok (.getfield 99, 3) := dB_36_2_18.2.1.2.2
theorem dX10_stepRoom_34 : decode cX10_stepRoom 34 = .ok (.iload_n 1, 1) := dB_36_2_18.2.2.1.1
theorem dX10_stepRoom_35 : decode cX10_stepRoom 35 = .ok (.aaload, 1) := dB_36_2_18.2.2.1.2
theorem dX10_stepRoom_36 : decode cX10_stepRoom 36 = .ok (.iload_n 2, 1) := dB_36_2_18.2.2.2.1
theorem dX10_stepRoom_37 : decode cX10_stepRoom 37 = .ok (.iaload, 1) := dB_36_2_18.2.2.2.2
theorem dB_36_2_19 : ((((decode cX10_stepRoom 38 = .ok (.ifCond .le 17, 3)) ∧ (decode cX10_stepRoom 41 = .ok (.aload_n 0, 1))) ∧ ((decode cX10_stepRoom 42 = .ok (.getfield 23, 3)) ∧ (decode cX10_stepRoom 45 = .ok (.getfield 99, 3)))) ∧ (((decode cX10_stepRoom 48 = .ok (.iload_n 1, 1)) ∧ (decode cX10_stepRoom 49 = .ok (.aaload, 1))) ∧ ((decode cX10_stepRoom 50 = .ok (.iload_n 2, 1)) ∧ (decode cX10_stepRoom 51 = .ok (.iaload, 1))))) ∧ ((((decode cX10_stepRoom 52 = .ok (.goto 5, 3)) ∧ (decode cX10_stepRoom 55 = .ok (.ldc 38, 2))) ∧ ((decode cX10_stepRoom 57 = .ok (.ireturn, 1)) ∧ (decode cX10_roomOfWay 0 = .ok (.iload_n 3, 1)))) ∧ (((decode cX10_roomOfWay 1 = .ok (.istore 4, 2)) ∧ (decode cX10_roomOfWay 3 = .ok (.iload_n 2, 1))) ∧ ((decode cX10_roomOfWay 4 = .ok (.istore 5, 2)) ∧ (decode cX10_roomOfWay 6 = .ok (.iconst 0, 1))))) := by first | decide +kernel | ((repeat' apply And.intro) <;> decide +kernel)
theorem dX10_stepRoom_38 : decode cX10_stepRoom 38 = .ok (.ifCond .le 17, 3) := dB_36_2_19.1.1.1.1
theorem dX10_stepRoom_41 : decode cX10_stepRoom 41 = .ok (.aload_n 0, 1) := dB_36_2_19.1.1.1.2
theorem dX10_stepRoom_42 : decode cX10_stepRoom 42 = .ok (.getfield 23, 3) := dB_36_2_19.1.1.2.1
theorem dX10_stepRoom_45 : decode cX10_stepRoom 45 = .ok (.getfield 99, 3) := dB_36_2_19.1.1.2.2
theorem dX10_stepRoom_48 : decode cX10_stepRoom 48 = .ok (.iload_n 1, 1) := dB_36_2_19.1.2.1.1
theorem dX10_stepRoom_49 : decode cX10_stepRoom 49 = .ok (.aaload, 1) := dB_36_2_19.1.2.1.2
theorem dX10_stepRoom_50 : decode cX10_stepRoom 50 = .ok (.iload_n 2, 1) := dB_36_2_19.1.2.2.1
theorem dX10_stepRoom_51 : decode cX10_stepRoom 51 = .ok (.iaload, 1) := dB_36_2_19.1.2.2.2
theorem dX10_stepRoom_52 : decode cX10_stepRoom 52 = .ok (.goto 5, 3) := dB_36_2_19.2.1.1.1
theorem dX10_stepRoom_55 : decode cX10_stepRoom 55 = .ok (.ldc 38, 2) := dB_36_2_19.2.1.1.2
theorem dX10_stepRoom_57 : decode cX10_stepRoom 57 = .ok (.ireturn, 1) := dB_36_2_19.2.1.2.1
theorem dX10_roomOfWay_0 : decode cX10_roomOfWay 0 = .ok (.iload_n 3, 1) := dB_36_2_19.2.1.2.2
theorem dX10_roomOfWay_1 : decode cX10_roomOfWay 1 = .ok (.istore 4, 2) := dB_36_2_19.2.2.1.1
theorem dX10_roomOfWay_3 : decode cX10_roomOfWay 3 = .ok (.iload_n 2, 1) := dB_36_2_19.2.2.1.2
theorem dX10_roomOfWay_4 : decode cX10_roomOfWay 4 = .ok (.istore 5, 2) := dB_36_2_19.2.2.2.1
theorem dX10_roomOfWay_6 : decode cX10_roomOfWay 6 = .ok (.iconst 0, 1) := dB_36_2_19.2.2.2.2
theorem dB_36_2_20 : ((((decode cX10_roomOfWay 7 = .ok (.istore 6, 2)) ∧ (decode cX10_roomOfWay 9 = .ok (.iload 6, 2))) ∧ ((decode cX10_roomOfWay 11 = .ok (.bipush 12, 2)) ∧ (decode cX10_roomOfWay 13 = .ok (.if_icmp .ge 44, 3)))) ∧ (((decode cX10_roomOfWay 16 = .ok (.iload 5, 2)) ∧ (decode cX10_roomOfWay 18 = .ok (.iload_n 1, 1))) ∧ ((decode cX10_roomOfWay 19 = .ok (.if_icmp .eq 38, 3)) ∧ (decode cX10_roomOfWay 22 = .ok (.iload 4, 2))))) ∧ ((((decode cX10_roomOfWay 24 = .ok (.aload_n 0, 1)) ∧ (decode cX10_roomOfWay 25 = .ok (.aload_n 0, 1))) ∧ ((decode cX10_roomOfWay 26 = .ok (.getfield 20, 3)) ∧ (decode cX10_roomOfWay 29 = .ok (.iload 5, 2)))) ∧ (((decode cX10_roomOfWay 31 = .ok (.iaload, 1)) ∧ (decode cX10_roomOfWay 32 = .ok (.iload 5, 2))) ∧ ((decode cX10_roomOfWay 34 = .ok (.invokevirtual 102, 3)) ∧ (decode cX10_roomOfWay 37 = .ok (.invokestatic 87, 3))))) := by first | decide +kernel | ((repeat' apply And.intro) <;> decide +kernel)
theorem dX10_roomOfWay_7 : decode cX10_roomOfWay 7 = .ok (.istore 6, 2) := dB_36_2_20.1.1.1.1
theorem dX10_roomOfWay_9 : decode cX10_roomOfWay 9 = .ok (.iload 6, 2) := dB_36_2_20.1.1.1.2
theorem dX10_roomOfWay_11 : decode cX10_roomOfWay 11 = .ok (.bipush 12, 2) := dB_36_2_20.1.1.2.1
theorem dX10_roomOfWay_13 : decode cX10_roomOfWay 13 = .ok (.if_icmp .ge 44, 3) := dB_36_2_20.1.1.2.2
theorem dX10_roomOfWay_16 : decode cX10_roomOfWay 16 = .ok (.iload 5, 2) := dB_36_2_20.1.2.1.1
theorem dX10_roomOfWay_18 : decode cX10_roomOfWay 18 = .ok (.iload_n 1, 1) := dB_36_2_20.1.2.1.2
theorem dX10_roomOfWay_19 : decode cX10_roomOfWay 19 = .ok (.if_icmp .eq 38, 3) := dB_36_2_20.1.2.2.1
theorem dX10_roomOfWay_22 : decode cX10_roomOfWay 22 = .ok (.iload 4, 2) := dB_36_2_20.1.2.2.2
theorem dX10_roomOfWay_24 : decode cX10_roomOfWay 24 = .ok (.aload_n 0, 1) := dB_36_2_20.2.1.1.1
theorem dX10_roomOfWay_25 : decode cX10_roomOfWay 25 = .ok (.aload_n 0, 1) := dB_36_2_20.2.1.1.2
theorem dX10_roomOfWay_26 : decode cX10_roomOfWay 26 = .ok (.getfield 20, 3) := dB_36_2_20.2.1.2.1
theorem dX10_roomOfWay_29 : decode cX10_roomOfWay 29 = .ok (.iload 5, 2) := dB_36_2_20.2.1.2.2
theorem dX10_roomOfWay_31 : decode cX10_roomOfWay 31 = .ok (.iaload, 1) := dB_36_2_20.2.2.1.1
theorem dX10_roomOfWay_32 : decode cX10_roomOfWay 32 = .ok (.iload 5, 2) := dB_36_2_20.2.2.1.2
theorem dX10_roomOfWay_34 : decode cX10_roomOfWay 34 = .ok (.invokevirtual 102, 3) := dB_36_2_20.2.2.2.1
theorem dX10_roomOfWay_37 : decode cX10_roomOfWay 37 = .ok (.invokestatic 87, 3) := dB_36_2_20.2.2.2.2
theorem dB_36_2_21 : ((((decode cX10_roomOfWay 40 = .ok (.istore 4, 2)) ∧ (decode cX10_roomOfWay 42 = .ok (.aload_n 0, 1))) ∧ ((decode cX10_roomOfWay 43 = .ok (.getfield 20, 3)) ∧ (decode cX10_roomOfWay 46 = .ok (.iload 5, 2)))) ∧ (((decode cX10_roomOfWay 48 = .ok (.iaload, 1)) ∧ (decode cX10_roomOfWay 49 = .ok (.istore 5, 2))) ∧ ((decode cX10_roomOfWay 51 = .ok (.iinc 6 1, 3)) ∧ (decode cX10_roomOfWay 54 = .ok (.goto (-45), 3))))) ∧ ((((decode cX10_roomOfWay 57 = .ok (.iload 4, 2)) ∧ (decode cX10_roomOfWay 59 = .ok (.ireturn, 1))) ∧ ((decode cX10_sendAlongWay 0 = .ok (.iload_n 2, 1)) ∧ (decode cX10_sendAlongWay 1 = .ok (.istore 4, 2)))) ∧ (((decode cX10_sendAlongWay 3 = .ok (.iconst 0, 1)) ∧ (decode cX10_sendAlongWay 4 = .ok (.istore 5, 2))) ∧ ((decode cX10_sendAlongWay 6 = .ok (.iload 5, 2)) ∧ (decode cX10_sendAlongWay 8 = .ok (.bipush 12, 2))))) := by first | decide +kernel | ((repeat' apply And.intro) <;> decide +kernel)
theorem dX10_roomOfWay_40 : decode cX10_roomOfWay 40 = .ok (.istore 4, 2) := dB_36_2_21.1.1.1.1
theorem dX10_roomOfWay_42 : decode cX10_roomOfWay 42 = .ok (.aload_n 0, 1) := dB_36_2_21.1.1.1.2
theorem dX10_roomOfWay_43 : decode cX10_roomOfWay 43 = .ok (.getfield 20, 3) := dB_36_2_21.1.1.2.1
theorem dX10_roomOfWay_46 : decode cX10_roomOfWay 46 = .ok (.iload 5, 2) := dB_36_2_21.1.1.2.2
theorem dX10_roomOfWay_48 : decode cX10_roomOfWay 48 = .ok (.iaload, 1) := dB_36_2_21.1.2.1.1
theorem dX10_roomOfWay_49 : decode cX10_roomOfWay 49 = .ok (.istore 5, 2) := dB_36_2_21.1.2.1.2
theorem dX10_roomOfWay_51 : decode cX10_roomOfWay 51 = .ok (.iinc 6 1, 3) := dB_36_2_21.1.2.2.1
theorem dX10_roomOfWay_54 : decode cX10_roomOfWay 54 = .ok (.goto (-45), 3) := dB_36_2_21.1.2.2.2
theorem dX10_roomOfWay_57 : decode cX10_roomOfWay 57 = .ok (.iload 4, 2) := dB_36_2_21.2.1.1.1
theorem dX10_roomOfWay_59 : decode cX10_roomOfWay 59 = .ok (.ireturn, 1) := dB_36_2_21.2.1.1.2
theorem dX10_sendAlongWay_0 : decode cX10_sendAlongWay 0 = .ok (.iload_n 2, 1) := dB_36_2_21.2.1.2.1
theorem dX10_sendAlongWay_1 : decode cX10_sendAlongWay 1 = .ok (.istore 4, 2) := dB_36_2_21.2.1.2.2
theorem dX10_sendAlongWay_3 : decode cX10_sendAlongWay 3 = .ok (.iconst 0, 1) := dB_36_2_21.2.2.1.1
theorem dX10_sendAlongWay_4 : decode cX10_sendAlongWay 4 = .ok (.istore 5, 2) := dB_36_2_21.2.2.1.2
theorem dX10_sendAlongWay_6 : decode cX10_sendAlongWay 6 = .ok (.iload 5, 2) := dB_36_2_21.2.2.2.1
theorem dX10_sendAlongWay_8 : decode cX10_sendAlongWay 8 = .ok (.bipush 12, 2) := dB_36_2_21.2.2.2.2
theorem dB_36_2_22 : ((((decode cX10_sendAlongWay 10 = .ok (.if_icmp .ge 68, 3)) ∧ (decode cX10_sendAlongWay 13 = .ok (.iload 4, 2))) ∧ ((decode cX10_sendAlongWay 15 = .ok (.iload_n 1, 1)) ∧ (decode cX10_sendAlongWay 16 = .ok (.if_icmp .eq 62, 3)))) ∧ (((decode cX10_sendAlongWay 19 = .ok (.aload_n 0, 1)) ∧ (decode cX10_sendAlongWay 20 = .ok (.getfield 23, 3))) ∧ ((decode cX10_sendAlongWay 23 = .ok (.getfield 99, 3)) ∧ (decode cX10_sendAlongWay 26 = .ok (.aload_n 0, 1))))) ∧ ((((decode cX10_sendAlongWay 27 = .ok (.getfield 20, 3)) ∧ (decode cX10_sendAlongWay 30 = .ok (.iload 4, 2))) ∧ ((decode cX10_sendAlongWay 32 = .ok (.iaload, 1)) ∧ (decode cX10_sendAlongWay 33 = .ok (.aaload, 1)))) ∧ (((decode cX10_sendAlongWay 34 = .ok (.iload 4, 2)) ∧ (decode cX10_sendAlongWay 36 = .ok (.dup2, 1))) ∧ ((decode cX10_sendAlongWay 37 = .ok (.iaload, 1)) ∧ (decode cX10_sendAlongWay 38 = .ok (.iload_n 3, 1))))) := by first | decide +kernel | ((repeat' apply And.intro) <;> decide +kernel)
theorem dX10_sendAlongWay_10 : decode cX10_sendAlongWay 10 = .ok (.if_icmp .ge 68, 3) := dB_36_2_22.1.1.1.1
theorem dX10_sendAlongWay_13 : decode cX10_sendAlongWay 13 = .ok (.iload 4, 2) := dB_36_2_22.1.1.1.2
theorem dX10_sendAlongWay_15 : decode cX10_sendAlongWay 15 = .ok (.iload_n 1, 1) := dB_36_2_22.1.1.2.1
theorem dX10_sendAlongWay_16 : decode cX10_sendAlongWay 16 = .ok (.if_icmp .eq 62, 3) := dB_36_2_22.1.1.2.2
theorem dX10_sendAlongWay_19 : decode cX10_sendAlongWay 19 = .ok (.aload_n 0, 1) := dB_36_2_22.1.2.1.1
theorem dX10_sendAlongWay_20 : decode cX10_sendAlongWay 20 = .ok (.getfield 23, 3) := dB_36_2_22.1.2.1.2
theorem dX10_sendAlongWay_23 : decode cX10_sendAlongWay 23 = .ok (.getfield 99, 3) := dB_36_2_22.1.2.2.1
theorem dX10_sendAlongWay_26 : decode cX10_sendAlongWay 26 = .ok (.aload_n 0, 1) := dB_36_2_22.1.2.2.2
theorem dX10_sendAlongWay_27 : decode cX10_sendAlongWay 27 = .ok (.getfield 20, 3) := dB_36_2_22.2.1.1.1
theorem dX10_sendAlongWay_30 : decode cX10_sendAlongWay 30 = .ok (.iload 4, 2) := dB_36_2_22.2.1.1.2
theorem dX10_sendAlongWay_32 : decode cX10_sendAlongWay 32 = .ok (.iaload, 1) := dB_36_2_22.2.1.2.1
theorem dX10_sendAlongWay_33 : decode cX10_sendAlongWay 33 = .ok (.aaload, 1) := dB_36_2_22.2.1.2.2
theorem dX10_sendAlongWay_34 : decode cX10_sendAlongWay 34 = .ok (.iload 4, 2) := dB_36_2_22.2.2.1.1
theorem dX10_sendAlongWay_36 : decode cX10_sendAlongWay 36 = .ok (.dup2, 1) := dB_36_2_22.2.2.1.2
theorem dX10_sendAlongWay_37 : decode cX10_sendAlongWay 37 = .ok (.iaload, 1) := dB_36_2_22.2.2.2.1
theorem dX10_sendAlongWay_38 : decode cX10_sendAlongWay 38 = .ok (.iload_n 3, 1) := dB_36_2_22.2.2.2.2
theorem dB_36_2_23 : ((((decode cX10_sendAlongWay 39 = .ok (.isub, 1)) ∧ (decode cX10_sendAlongWay 40 = .ok (.iastore, 1))) ∧ ((decode cX10_sendAlongWay 41 = .ok (.aload_n 0, 1)) ∧ (decode cX10_sendAlongWay 42 = .ok (.getfield 23, 3)))) ∧ (((decode cX10_sendAlongWay 45 = .ok (.getfield 99, 3)) ∧ (decode cX10_sendAlongWay 48 = .ok (.iload 4, 2))) ∧ ((decode cX10_sendAlongWay 50 = .ok (.aaload, 1)) ∧ (decode cX10_sendAlongWay 51 = .ok (.aload_n 0, 1))))) ∧ ((((decode cX10_sendAlongWay 52 = .ok (.getfield 20, 3)) ∧ (decode cX10_sendAlongWay 55 = .ok (.iload 4, 2))) ∧ ((decode cX10_sendAlongWay 57 = .ok (.iaload, 1)) ∧ (decode cX10_sendAlongWay 58 = .ok (.dup2, 1)))) ∧ (((decode cX10_sendAlongWay 59 = .ok (.iaload, 1)) ∧ (decode cX10_sendAlongWay 60 = .ok (.iload_n 3, 1))) ∧ ((decode cX10_sendAlongWay 61 = .ok (.iadd, 1)) ∧ (decode cX10_sendAlongWay 62 = .ok (.iastore, 1))))) := by first | decide +kernel | ((repeat' apply And.intro) <;> decide +kernel)
theorem dX10_sendAlongWay_39 : decode cX10_sendAlongWay 39 = .ok (.isub, 1) := dB_36_2_23.1.1.1.1
theorem dX10_sendAlongWay_40 : decode cX10_sendAlongWay 40 = .ok (.iastore, 1) := dB_36_2_23.1.1.1.2
theorem dX10_sendAlongWay_41 : decode cX10_sendAlongWay 41 = .ok (.aload_n 0, 1) := dB_36_2_23.1.1.2.1
theorem dX10_sendAlongWay_42 : decode cX10_sendAlongWay 42 = .ok (.getfield 23, 3) := dB_36_2_23.1.1.2.2
theorem dX10_sendAlongWay_45 : decode cX10_sendAlongWay 45 = .ok (.getfield 99, 3) := dB_36_2_23.1.2.1.1
theorem dX10_sendAlongWay_48 : decode cX10_sendAlongWay 48 = .ok (.iload 4, 2) := dB_36_2_23.1.2.1.2
theorem dX10_sendAlongWay_50 : decode cX10_sendAlongWay 50 = .ok (.aaload, 1) := dB_36_2_23.1.2.2.1
theorem dX10_sendAlongWay_51 : decode cX10_sendAlongWay 51 = .ok (.aload_n 0, 1) := dB_36_2_23.1.2.2.2
theorem dX10_sendAlongWay_52 : decode cX10_sendAlongWay 52 = .ok (.getfield 20, 3) := dB_36_2_23.2.1.1.1
theorem dX10_sendAlongWay_55 : decode cX10_sendAlongWay 55 = .ok (.iload 4, 2) := dB_36_2_23.2.1.1.2
theorem dX10_sendAlongWay_57 : decode cX10_sendAlongWay 57 = .ok (.iaload, 1) := dB_36_2_23.2.1.2.1
theorem dX10_sendAlongWay_58 : decode cX10_sendAlongWay 58 = .ok (.dup2, 1) := dB_36_2_23.2.1.2.2
theorem dX10_sendAlongWay_59 : decode cX10_sendAlongWay 59 = .ok (.iaload, 1) := dB_36_2_23.2.2.1.1
theorem dX10_sendAlongWay_60 : decode cX10_sendAlongWay 60 = .ok (.iload_n 3, 1) := dB_36_2_23.2.2.1.2
theorem dX10_sendAlongWay_61 : decode cX10_sendAlongWay 61 = .ok (.iadd, 1) := dB_36_2_23.2.2.2.1
theorem dX10_sendAlongWay_62 : decode cX10_sendAlongWay 62 = .ok (.iastore, 1) := dB_36_2_23.2.2.2.2
theorem dB_36_2_24 : ((((decode cX10_sendAlongWay 63 = .ok (.aload_n 0, 1)) ∧ (decode cX10_sendAlongWay 64 = .ok (.getfield 20, 3))) ∧ ((decode cX10_sendAlongWay 67 = .ok (.iload 4, 2)) ∧ (decode cX10_sendAlongWay 69 = .ok (.iaload, 1)))) ∧ (((decode cX10_sendAlongWay 70 = .ok (.istore 4, 2)) ∧ (decode cX10_sendAlongWay 72 = .ok (.iinc 5 1, 3))) ∧ ((decode cX10_sendAlongWay 75 = .ok (.goto (-69), 3)) ∧ (decode cX10_sendAlongWay 78 = .ok (.return_, 1))))) ∧ ((((decode cX11_init 0 = .ok (.aload_n 0, 1)) ∧ (decode cX11_init 1 = .ok (.invokespecial 1, 3))) ∧ ((decode cX11_init 4 = .ok (.aload_n 0, 1)) ∧ (decode cX11_init 5 = .ok (.iconst 5, 1)))) ∧ (((decode cX11_init 6 = .ok (.anewarray 7, 3)) ∧ (decode cX11_init 9 = .ok (.dup, 1))) ∧ ((decode cX11_init 10 = .ok (.iconst 0, 1)) ∧ (decode cX11_init 11 = .ok (.new 7, 3))))) := by first | decide +kernel | ((repeat' apply And.intro) <;> decide +kernel)
theorem dX10_sendAlongWay_63 : decode cX10_sendAlongWay 63 = .ok (.aload_n 0, 1) := dB_36_2_24.1.1.1.1
theorem dX10_sendAlongWay_64 : decode cX10_sendAlongWay 64 = .ok (.getfield 20, 3) := dB_36_2_24.1.1.1.2
theorem dX10_sendAlongWay_67 : decode cX10_sendAlongWay 67 = .ok (.iload 4, 2) := dB_36_2_24.1.1.2.1
theorem dX10_sendAlongWay_69 : decode cX10_sendAlongWay 69 = .ok (.iaload, 1) := dB_36_2_24.1.1.2.2
theorem dX10_sendAlongWay_70 : decode cX10_sendAlongWay 70 = .ok (.istore 4, 2) := dB_36_2_24.1.2.1.1
theorem dX10_sendAlongWay_72 : decode cX10_sendAlongWay 72 = .ok (.iinc 5 1, 3) := dB_36_2_24.1.2.1.2
theorem dX10_sendAlongWay_75 : decode cX10_sendAlongWay 75 = .ok (.goto (-69), 3) := dB_36_2_24.1.2.2.1
theorem dX10_sendAlongWay_78 : decode cX10_sendAlongWay 78 = .ok (.return_, 1) := dB_36_2_24.1.2.2.2
theorem dX11_init_0 : decode cX11_init 0 = .ok (.aload_n 0, 1) := dB_36_2_24.2.1.1.1
theorem dX11_init_1 : decode cX11_init 1 = .ok (.invokespecial 1, 3) := dB_36_2_24.2.1.1.2
theorem dX11_init_4 : decode cX11_init 4 = .ok (.aload_n 0, 1) := dB_36_2_24.2.1.2.1
theorem dX11_init_5 : decode cX11_init 5 = .ok (.iconst 5, 1) := dB_36_2_24.2.1.2.2
theorem dX11_init_6 : decode cX11_init 6 = .ok (.anewarray 7, 3) := dB_36_2_24.2.2.1.1
theorem dX11_init_9 : decode cX11_init 9 = .ok (.dup, 1) := dB_36_2_24.2.2.1.2
theorem dX11_init_10 : decode cX11_init 10 = .ok (.iconst 0, 1) := dB_36_2_24.2.2.2.1
theorem dX11_init_11 : decode cX11_init 11 = .ok (.new 7, 3) := dB_36_2_24.2.2.2.2
theorem dB_36_2_25 : ((((decode cX11_init 14 = .ok (.dup, 1)) ∧ (decode cX11_init 15 = .ok (.invokespecial 9, 3))) ∧ ((decode cX11_init 18 = .ok (.aastore, 1)) ∧ (decode cX11_init 19 = .ok (.dup, 1)))) ∧ (((decode cX11_init 20 = .ok (.iconst 1, 1)) ∧ (decode cX11_init 21 = .ok (.new 10, 3))) ∧ ((decode cX11_init 24 = .ok (.dup, 1)) ∧ (decode cX11_init 25 = .ok (.invokespecial 12, 3))))) ∧ ((((decode cX11_init 28 = .ok (.aastore, 1)) ∧ (decode cX11_init 29 = .ok (.dup, 1))) ∧ ((decode cX11_init 30 = .ok (.iconst 2, 1)) ∧ (decode cX11_init 31 = .ok (.new 13, 3)))) ∧ (((decode cX11_init 34 = .ok (.dup, 1)) ∧ (decode cX11_init 35 = .ok (.invokespecial 15, 3))) ∧ ((decode cX11_init 38 = .ok (.aastore, 1)) ∧ (decode cX11_init 39 = .ok (.dup, 1))))) := by first | decide +kernel | ((repeat' apply And.intro) <;> decide +kernel)
theorem dX11_init_14 : decode cX11_init 14 = .ok (.dup, 1) := dB_36_2_25.1.1.1.1
theorem dX11_init_15 : decode cX11_init 15 = .ok (.invokespecial 9, 3) := dB_36_2_25.1.1.1.2
theorem dX11_init_18 : decode cX11_init 18 = .ok (.aastore, 1) := dB_36_2_25.1.1.2.1
theorem dX11_init_19 : decode cX11_init 19 = .ok (.dup, 1) := dB_36_2_25.1.1.2.2
theorem dX11_init_20 : decode cX11_init 20 = .ok (.iconst 1, 1) := dB_36_2_25.1.2.1.1
theorem dX11_init_21 : decode cX11_init 21 = .ok (.new 10, 3) := dB_36_2_25.1.2.1.2
theorem dX11_init_24 : decode cX11_init 24 = .ok (.dup, 1) := dB_36_2_25.1.2.2.1
theorem dX11_init_25 : decode cX11_init 25 = .ok (.invokespecial 12, 3) := dB_36_2_25.1.2.2.2
theorem dX11_init_28 : decode cX11_init 28 = .ok (.aastore, 1) := dB_36_2_25.2.1.1.1
theorem dX11_init_29 : decode cX11_init 29 = .ok (.dup, 1) := dB_36_2_25.2.1.1.2
theorem dX11_init_30 : decode cX11_init 30 = .ok (.iconst 2, 1) := dB_36_2_25.2.1.2.1
theorem dX11_init_31 : decode cX11_init 31 = .ok (.new 13, 3) := dB_36_2_25.2.1.2.2
theorem dX11_init_34 : decode cX11_init 34 = .ok (.dup, 1) := dB_36_2_25.2.2.1.1
theorem dX11_init_35 : decode cX11_init 35 = .ok (.invokespecial 15, 3) := dB_36_2_25.2.2.1.2
theorem dX11_init_38 : decode cX11_init 38 = .ok (.aastore, 1) := dB_36_2_25.2.2.2.1
theorem dX11_init_39 : decode cX11_init 39 = .ok (.dup, 1) := dB_36_2_25.2.2.2.2
theorem dB_36_2_26 : ((((decode cX11_init 40 = .ok (.iconst 3, 1)) ∧ (decode cX11_init 41 = .ok (.new 16, 3))) ∧ ((decode cX11_init 44 = .ok (.dup, 1)) ∧ (decode cX11_init 45 = .ok (.invokespecial 18, 3)))) ∧ (((decode cX11_init 48 = .ok (.aastore, 1)) ∧ (decode cX11_init 49 = .ok (.dup, 1))) ∧ ((decode cX11_init 50 = .ok (.iconst 4, 1)) ∧ (decode cX11_init 51 = .ok (.new 19, 3))))) ∧ ((((decode cX11_init 54 = .ok (.dup, 1)) ∧ (decode cX11_init 55 = .ok (.invokespecial 21, 3))) ∧ ((decode cX11_init 58 = .ok (.aastore, 1)) ∧ (decode cX11_init 59 = .ok (.putfield 22, 3)))) ∧ (((decode cX11_init 62 = .ok (.aload_n 0, 1)) ∧ (decode cX11_init 63 = .ok (.new 28, 3))) ∧ ((decode cX11_init 66 = .ok (.dup, 1)) ∧ (decode cX11_init 67 = .ok (.invokespecial 30, 3))))) := by first | decide +kernel | ((repeat' apply And.intro) <;> decide +kernel)
theorem dX11_init_40 : decode cX11_init 40 = .ok (.iconst 3, 1) := dB_36_2_26.1.1.1.1
theorem dX11_init_41 : decode cX11_init 41 = .ok (.new 16, 3) := dB_36_2_26.1.1.1.2
theorem dX11_init_44 : decode cX11_init 44 = .ok (.dup, 1) := dB_36_2_26.1.1.2.1
theorem dX11_init_45 : decode cX11_init 45 = .ok (.invokespecial 18, 3) := dB_36_2_26.1.1.2.2
theorem dX11_init_48 : decode cX11_init 48 = .ok (.aastore, 1) := dB_36_2_26.1.2.1.1
theorem dX11_init_49 : decode cX11_init 49 = .ok (.dup, 1) := dB_36_2_26.1.2.1.2
theorem dX11_init_50 : decode cX11_init 50 = .ok (.iconst 4, 1) := dB_36_2_26.1.2.2.1
theorem dX11_init_51 : decode cX11_init 51 = .ok (.new 19, 3) := dB_36_2_26.1.2.2.2
theorem dX11_init_54 : decode cX11_init 54 = .ok (.dup, 1) := dB_36_2_26.2.1.1.1
theorem dX11_init_55 : decode cX11_init 55 = .ok (.invokespecial 21, 3) := dB_36_2_26.2.1.1.2
theorem dX11_init_58 : decode cX11_init 58 = .ok (.aastore, 1) := dB_36_2_26.2.1.2.1
theorem dX11_init_59 : decode cX11_init 59 = .ok (.putfield 22, 3) := dB_36_2_26.2.1.2.2
theorem dX11_init_62 : decode cX11_init 62 = .ok (.aload_n 0, 1) := dB_36_2_26.2.2.1.1
theorem dX11_init_63 : decode cX11_init 63 = .ok (.new 28, 3) := dB_36_2_26.2.2.1.2
theorem dX11_init_66 : decode cX11_init 66 = .ok (.dup, 1) := dB_36_2_26.2.2.2.1
theorem dX11_init_67 : decode cX11_init 67 = .ok (.invokespecial 30, 3) := dB_36_2_26.2.2.2.2
theorem dB_36_2_27 : ((((decode cX11_init 70 = .ok (.putfield 31, 3)) ∧ (decode cX11_init 73 = .ok (.aload_n 0, 1))) ∧ ((decode cX11_init 74 = .ok (.new 35, 3)) ∧ (decode cX11_init 77 = .ok (.dup, 1)))) ∧ (((decode cX11_init 78 = .ok (.aload_n 0, 1)) ∧ (decode cX11_init 79 = .ok (.getfield 31, 3))) ∧ ((decode cX11_init 82 = .ok (.aload_n 0, 1)) ∧ (decode cX11_init 83 = .ok (.getfield 22, 3))))) ∧ ((((decode cX11_init 86 = .ok (.invokespecial 37, 3)) ∧ (decode cX11_init 89 = .ok (.putfield 40, 3))) ∧ ((decode cX11_init 92 = .ok (.aload_n 0, 1)) ∧ (decode cX11_init 93 = .ok (.new 44, 3)))) ∧ (((decode cX11_init 96 = .ok (.dup, 1)) ∧ (decode cX11_init 97 = .ok (.aload_n 0, 1))) ∧ ((decode cX11_init 98 = .ok (.getfield 40, 3)) ∧ (decode cX11_init 101 = .ok (.invokespecial 46, 3))))) := by first | decide +kernel | ((repeat' apply And.intro) <;> decide +kernel)
theorem dX11_init_70 : decode cX11_init 70 = .ok (.putfield 31, 3) := dB_36_2_27.1.1.1.1
theorem dX11_init_73 : decode cX11_init 73 = .ok (.aload_n 0, 1) := dB_36_2_27.1.1.1.2
theorem dX11_init_74 : decode cX11_init 74 = .ok (.new 35, 3) := dB_36_2_27.1.1.2.1
theorem dX11_init_77 : decode cX11_init 77 = .ok (.dup, 1) := dB_36_2_27.1.1.2.2
theorem dX11_init_78 : decode cX11_init 78 = .ok (.aload_n 0, 1) := dB_36_2_27.1.2.1.1
theorem dX11_init_79 : decode cX11_init 79 = .ok (.getfield 31, 3) := dB_36_2_27.1.2.1.2
theorem dX11_init_82 : decode cX11_init 82 = .ok (.aload_n 0, 1) := dB_36_2_27.1.2.2.1
theorem dX11_init_83 : decode cX11_init 83 = .ok (.getfield 22, 3) := dB_36_2_27.1.2.2.2
theorem dX11_init_86 : decode cX11_init 86 = .ok (.invokespecial 37, 3) := dB_36_2_27.2.1.1.1
theorem dX11_init_89 : decode cX11_init 89 = .ok (.putfield 40, 3) := dB_36_2_27.2.1.1.2
theorem dX11_init_92 : decode cX11_init 92 = .ok (.aload_n 0, 1) := dB_36_2_27.2.1.2.1
theorem dX11_init_93 : decode cX11_init 93 = .ok (.new 44, 3) := dB_36_2_27.2.1.2.2
theorem dX11_init_96 : decode cX11_init 96 = .ok (.dup, 1) := dB_36_2_27.2.2.1.1
theorem dX11_init_97 : decode cX11_init 97 = .ok (.aload_n 0, 1) := dB_36_2_27.2.2.1.2
theorem dX11_init_98 : decode cX11_init 98 = .ok (.getfield 40, 3) := dB_36_2_27.2.2.2.1
theorem dX11_init_101 : decode cX11_init 101 = .ok (.invokespecial 46, 3) := dB_36_2_27.2.2.2.2
theorem dB_36_2_28 : ((((decode cX11_init 104 = .ok (.putfield 49, 3)) ∧ (decode cX11_init 107 = .ok (.aload_n 0, 1))) ∧ ((decode cX11_init 108 = .ok (.new 53, 3)) ∧ (decode cX11_init 111 = .ok (.dup, 1)))) ∧ (((decode cX11_init 112 = .ok (.aload_n 0, 1)) ∧ (decode cX11_init 113 = .ok (.getfield 40, 3))) ∧ ((decode cX11_init 116 = .ok (.invokespecial 55, 3)) ∧ (decode cX11_init 119 = .ok (.putfield 56, 3))))) ∧ ((((decode cX11_init 122 = .ok (.aload_n 0, 1)) ∧ (decode cX11_init 123 = .ok (.new 60, 3))) ∧ ((decode cX11_init 126 = .ok (.dup, 1)) ∧ (decode cX11_init 127 = .ok (.aload_n 0, 1)))) ∧ (((decode cX11_init 128 = .ok (.getfield 40, 3)) ∧ (decode cX11_init 131 = .ok (.aload_n 0, 1))) ∧ ((decode cX11_init 132 = .ok (.getfield 22, 3)) ∧ (decode cX11_init 135 = .ok (.invokespecial 62, 3))))) := by first | decide +kernel | ((repeat' apply And.intro) <;> decide +kernel)
theorem dX11_init_104 : decode cX11_init 104 = .ok (.putfield 49, 3) := dB_36_2_28.1.1.1.1
theorem dX11_init_107 : decode cX11_init 107 = .ok (.aload_n 0, 1) := dB_36_2_28.1.1.1.2
theorem dX11_init_108 : decode cX11_init 108 = .ok (.new 53, 3) := dB_36_2_28.1.1.2.1
theorem dX11_init_111 : decode cX11_init 111 = .ok (.dup, 1) := dB_36_2_28.1.1.2.2
theorem dX11_init_112 : decode cX11_init 112 = .ok (.aload_n 0, 1) := dB_36_2_28.1.2.1.1
theorem dX11_init_113 : decode cX11_init 113 = .ok (.getfield 40, 3) := dB_36_2_28.1.2.1.2
theorem dX11_init_116 : decode cX11_init 116 = .ok (.invokespecial 55, 3) := dB_36_2_28.1.2.2.1
theorem dX11_init_119 : decode cX11_init 119 = .ok (.putfield 56, 3) := dB_36_2_28.1.2.2.2
theorem dX11_init_122 : decode cX11_init 122 = .ok (.aload_n 0, 1) := dB_36_2_28.2.1.1.1
theorem dX11_init_123 : decode cX11_init 123 = .ok (.new 60, 3) := dB_36_2_28.2.1.1.2
theorem dX11_init_126 : decode cX11_init 126 = .ok (.dup, 1) := dB_36_2_28.2.1.2.1
theorem dX11_init_127 : decode cX11_init 127 = .ok (.aload_n 0, 1) := dB_36_2_28.2.1.2.2
theorem dX11_init_128 : decode cX11_init 128 = .ok (.getfield 40, 3) := dB_36_2_28.2.2.1.1
theorem dX11_init_131 : decode cX11_init 131 = .ok (.aload_n 0, 1) := dB_36_2_28.2.2.1.2
theorem dX11_init_132 : decode cX11_init 132 = .ok (.getfield 22, 3) := dB_36_2_28.2.2.2.1
theorem dX11_init_135 : decode cX11_init 135 = .ok (.invokespecial 62, 3) := dB_36_2_28.2.2.2.2
theorem dB_36_2_29 : ((((decode cX11_init 138 = .ok (.putfield 65, 3)) ∧ (decode cX11_init 141 = .ok (.aload_n 0, 1))) ∧ ((decode cX11_init 142 = .ok (.iconst 4, 1)) ∧ (decode cX11_init 143 = .ok (.anewarray 69, 3)))) ∧ (((decode cX11_init 146 = .ok (.dup, 1)) ∧ (decode cX11_init 147 = .ok (.iconst 0, 1))) ∧ ((decode cX11_init 148 = .ok (.new 69, 3)) ∧ (decode cX11_init 151 = .ok (.dup, 1))))) ∧ ((((decode cX11_init 152 = .ok (.invokespecial 71, 3)) ∧ (decode cX11_init 155 = .ok (.aastore, 1))) ∧ ((decode cX11_init 156 = .ok (.dup, 1)) ∧ (decode cX11_init 157 = .ok (.iconst 1, 1)))) ∧ (((decode cX11_init 158 = .ok (.new 69, 3)) ∧ (decode cX11_init 161 = .ok (.dup, 1))) ∧ ((decode cX11_init 162 = .ok (.invokespecial 71, 3)) ∧ (decode cX11_init 165 = .ok (.aastore, 1))))) := by first | decide +kernel | ((repeat' apply And.intro) <;> decide +kernel)
theorem dX11_init_138 : decode cX11_init 138 = .ok (.putfield 65, 3) := dB_36_2_29.1.1.1.1
theorem dX11_init_141 : decode cX11_init 141 = .ok (.aload_n 0, 1) := dB_36_2_29.1.1.1.2
theorem dX11_init_142 : decode cX11_init 142 = .ok (.iconst 4, 1) := dB_36_2_29.1.1.2.1
theorem dX11_init_143 : decode cX11_init 143 = .ok (.anewarray 69, 3) := dB_36_2_29.1.1.2.2
theorem dX11_init_146 : decode cX11_init 146 = .ok (.dup, 1) := dB_36_2_29.1.2.1.1
theorem dX11_init_147 : decode cX11_init 147 = .ok (.iconst 0, 1) := dB_36_2_29.1.2.1.2
theorem dX11_init_148 : decode cX11_init 148 = .ok (.new 69, 3) := dB_36_2_29.1.2.2.1
theorem dX11_init_151 : decode cX11_init 151 = .ok (.dup, 1) := dB_36_2_29.1.2.2.2
theorem dX11_init_152 : decode cX11_init 152 = .ok (.invokespecial 71, 3) := dB_36_2_29.2.1.1.1
theorem dX11_init_155 : decode cX11_init 155 = .ok (.aastore, 1) := dB_36_2_29.2.1.1.2
theorem dX11_init_156 : decode cX11_init 156 = .ok (.dup, 1) := dB_36_2_29.2.1.2.1
theorem dX11_init_157 : decode cX11_init 157 = .ok (.iconst 1, 1) := dB_36_2_29.2.1.2.2
theorem dX11_init_158 : decode cX11_init 158 = .ok (.new 69, 3) := dB_36_2_29.2.2.1.1
theorem dX11_init_161 : decode cX11_init 161 = .ok (.dup, 1) := dB_36_2_29.2.2.1.2
theorem dX11_init_162 : decode cX11_init 162 = .ok (.invokespecial 71, 3) := dB_36_2_29.2.2.2.1
theorem dX11_init_165 : decode cX11_init 165 = .ok (.aastore, 1) := dB_36_2_29.2.2.2.2
theorem dB_36_2_30 : ((((decode cX11_init 166 = .ok (.dup, 1)) ∧ (decode cX11_init 167 = .ok (.iconst 2, 1))) ∧ ((decode cX11_init 168 = .ok (.new 69, 3)) ∧ (decode cX11_init 171 = .ok (.dup, 1)))) ∧ (((decode cX11_init 172 = .ok (.invokespecial 71, 3)) ∧ (decode cX11_init 175 = .ok (.aastore, 1))) ∧ ((decode cX11_init 176 = .ok (.dup, 1)) ∧ (decode cX11_init 177 = .ok (.iconst 3, 1))))) ∧ ((((decode cX11_init 178 = .ok (.new 69, 3)) ∧ (decode cX11_init 181 = .ok (.dup, 1))) ∧ ((decode cX11_init 182 = .ok (.invokespecial 71, 3)) ∧ (decode cX11_init 185 = .ok (.aastore, 1)))) ∧ (((decode cX11_init 186 = .ok (.putfield 72, 3)) ∧ (decode cX11_init 189 = .ok (.aload_n 0, 1))) ∧ ((decode cX11_init 190 = .ok (.bipush 30, 2)) ∧ (decode cX11_init 192 = .ok (.anewarray 28, 3))))) := by first | decide +kernel | ((repeat' apply And.intro) <;> decide +kernel)
theorem dX11_init_166 : decode cX11_init 166 = .ok (.dup, 1) := dB_36_2_30.1.1.1.1
theorem dX11_init_167 : decode cX11_init 167 = .ok (.iconst 2, 1) := dB_36_2_30.1.1.1.2
theorem dX11_init_168 : decode cX11_init 168 = .ok (.new 69, 3) := dB_36_2_30.1.1.2.1
theorem dX11_init_171 : decode cX11_init 171 = .ok (.dup, 1) := dB_36_2_30.1.1.2.2
theorem dX11_init_172 : decode cX11_init 172 = .ok (.invokespecial 71, 3) := dB_36_2_30.1.2.1.1
theorem dX11_init_175 : decode cX11_init 175 = .ok (.aastore, 1) := dB_36_2_30.1.2.1.2
theorem dX11_init_176 : decode cX11_init 176 = .ok (.dup, 1) := dB_36_2_30.1.2.2.1
theorem dX11_init_177 : decode cX11_init 177 = .ok (.iconst 3, 1) := dB_36_2_30.1.2.2.2
theorem dX11_init_178 : decode cX11_init 178 = .ok (.new 69, 3) := dB_36_2_30.2.1.1.1
theorem dX11_init_181 : decode cX11_init 181 = .ok (.dup, 1) := dB_36_2_30.2.1.1.2
theorem dX11_init_182 : decode cX11_init 182 = .ok (.invokespecial 71, 3) := dB_36_2_30.2.1.2.1
theorem dX11_init_185 : decode cX11_init 185 = .ok (.aastore, 1) := dB_36_2_30.2.1.2.2
theorem dX11_init_186 : decode cX11_init 186 = .ok (.putfield 72, 3) := dB_36_2_30.2.2.1.1
theorem dX11_init_189 : decode cX11_init 189 = .ok (.aload_n 0, 1) := dB_36_2_30.2.2.1.2
theorem dX11_init_190 : decode cX11_init 190 = .ok (.bipush 30, 2) := dB_36_2_30.2.2.2.1
theorem dX11_init_192 : decode cX11_init 192 = .ok (.anewarray 28, 3) := dB_36_2_30.2.2.2.2
theorem dB_36_2_31 : ((((decode cX11_init 195 = .ok (.putfield 76, 3)) ∧ (decode cX11_init 198 = .ok (.aload_n 0, 1))) ∧ ((decode cX11_init 199 = .ok (.iconst 0, 1)) ∧ (decode cX11_init 200 = .ok (.putfield 80, 3)))) ∧ (((decode cX11_init 203 = .ok (.aload_n 0, 1)) ∧ (decode cX11_init 204 = .ok (.iconst 0, 1))) ∧ ((decode cX11_init 205 = .ok (.putfield 84, 3)) ∧ (decode cX11_init 208 = .ok (.aload_n 0, 1))))) ∧ ((((decode cX11_init 209 = .ok (.lconst 0, 1)) ∧ (decode cX11_init 210 = .ok (.putfield 87, 3))) ∧ ((decode cX11_init 213 = .ok (.aload_n 0, 1)) ∧ (decode cX11_init 214 = .ok (.iconst 0, 1)))) ∧ (((decode cX11_init 215 = .ok (.putfield 91, 3)) ∧ (decode cX11_init 218 = .ok (.return_, 1))) ∧ ((decode cX11_place 0 = .ok (.aload_n 0, 1)) ∧ (decode cX11_place 1 = .ok (.getfield 31, 3))))) := by first | decide +kernel | ((repeat' apply And.intro) <;> decide +kernel)
theorem dX11_init_195 : decode cX11_init 195 = .ok (.putfield 76, 3) := dB_36_2_31.1.1.1.1
theorem dX11_init_198 : decode cX11_init 198 = .ok (.aload_n 0, 1) := dB_36_2_31.1.1.1.2
theorem dX11_init_199 : decode cX11_init 199 = .ok (.iconst 0, 1) := dB_36_2_31.1.1.2.1
theorem dX11_init_200 : decode cX11_init 200 = .ok (.putfield 80, 3) := dB_36_2_31.1.1.2.2
theorem dX11_init_203 : decode cX11_init 203 = .ok (.aload_n 0, 1) := dB_36_2_31.1.2.1.1
theorem dX11_init_204 : decode cX11_init 204 = .ok (.iconst 0, 1) := dB_36_2_31.1.2.1.2
theorem dX11_init_205 : decode cX11_init 205 = .ok (.putfield 84, 3) := dB_36_2_31.1.2.2.1
theorem dX11_init_208 : decode cX11_init 208 = .ok (.aload_n 0, 1) := dB_36_2_31.1.2.2.2
theorem dX11_init_209 : decode cX11_init 209 = .ok (.lconst 0, 1) := dB_36_2_31.2.1.1.1
theorem dX11_init_210 : decode cX11_init 210 = .ok (.putfield 87, 3) := dB_36_2_31.2.1.1.2
theorem dX11_init_213 : decode cX11_init 213 = .ok (.aload_n 0, 1) := dB_36_2_31.2.1.2.1
theorem dX11_init_214 : decode cX11_init 214 = .ok (.iconst 0, 1) := dB_36_2_31.2.1.2.2
theorem dX11_init_215 : decode cX11_init 215 = .ok (.putfield 91, 3) := dB_36_2_31.2.2.1.1
theorem dX11_init_218 : decode cX11_init 218 = .ok (.return_, 1) := dB_36_2_31.2.2.1.2
theorem dX11_place_0 : decode cX11_place 0 = .ok (.aload_n 0, 1) := dB_36_2_31.2.2.2.1
theorem dX11_place_1 : decode cX11_place 1 = .ok (.getfield 31, 3) := dB_36_2_31.2.2.2.2
theorem dB_36_2_32 : ((((decode cX11_place 4 = .ok (.getfield 94, 3)) ∧ (decode cX11_place 7 = .ok (.bipush 12, 2))) ∧ ((decode cX11_place 9 = .ok (.if_icmp .lt 6, 3)) ∧ (decode cX11_place 12 = .ok (.bipush (-3), 2)))) ∧ (((decode cX11_place 14 = .ok (.ireturn, 1)) ∧ (decode cX11_place 15 = .ok (.aload_n 0, 1))) ∧ ((decode cX11_place 16 = .ok (.invokevirtual 97, 3)) ∧ (decode cX11_place 19 = .ok (.aload_n 0, 1))))) ∧ ((((decode cX11_place 20 = .ok (.getfield 31, 3)) ∧ (decode cX11_place 23 = .ok (.dup, 1))) ∧ ((decode cX11_place 24 = .ok (.getfield 94, 3)) ∧ (decode cX11_place 27 = .ok (.iconst 1, 1)))) ∧ (((decode cX11_place 28 = .ok (.iadd, 1)) ∧ (decode cX11_place 29 = .ok (.putfield 94, 3))) ∧ ((decode cX11_place 32 = .ok (.aload_n 0, 1)) ∧ (decode cX11_place 33 = .ok (.getfield 31, 3))))) := by first | decide +kernel | ((repeat' apply And.intro) <;> decide +kernel)
theorem dX11_place_4 : decode cX11_place 4 = .ok (.getfield 94, 3) := dB_36_2_32.1.1.1.1
theorem dX11_place_7 : decode cX11_place 7 = .ok (.bipush 12, 2) := dB_36_2_32.1.1.1.2
theorem dX11_place_9 : decode cX11_place 9 = .ok (.if_icmp .lt 6, 3) := dB_36_2_32.1.1.2.1
theorem dX11_place_12 : decode cX11_place 12 = .ok (.bipush (-3), 2) := dB_36_2_32.1.1.2.2
theorem dX11_place_14 : decode cX11_place 14 = .ok (.ireturn, 1) := dB_36_2_32.1.2.1.1
theorem dX11_place_15 : decode cX11_place 15 = .ok (.aload_n 0, 1) := dB_36_2_32.1.2.1.2
theorem dX11_place_16 : decode cX11_place 16 = .ok (.invokevirtual 97, 3) := dB_36_2_32.1.2.2.1
theorem dX11_place_19 : decode cX11_place 19 = .ok (.aload_n 0, 1) := dB_36_2_32.1.2.2.2
theorem dX11_place_20 : decode cX11_place 20 = .ok (.getfield 31, 3) := dB_36_2_32.2.1.1.1
theorem dX11_place_23 : decode cX11_place 23 = .ok (.dup, 1) := dB_36_2_32.2.1.1.2
theorem dX11_place_24 : decode cX11_place 24 = .ok (.getfield 94, 3) := dB_36_2_32.2.1.2.1
theorem dX11_place_27 : decode cX11_place 27 = .ok (.iconst 1, 1) := dB_36_2_32.2.1.2.2
theorem dX11_place_28 : decode cX11_place 28 = .ok (.iadd, 1) := dB_36_2_32.2.2.1.1
theorem dX11_place_29 : decode cX11_place 29 = .ok (.putfield 94, 3) := dB_36_2_32.2.2.1.2
theorem dX11_place_32 : decode cX11_place 32 = .ok (.aload_n 0, 1) := dB_36_2_32.2.2.2.1
theorem dX11_place_33 : decode cX11_place 33 = .ok (.getfield 31, 3) := dB_36_2_32.2.2.2.2
theorem dB_36_2_33 : ((((decode cX11_place 36 = .ok (.getfield 94, 3)) ∧ (decode cX11_place 39 = .ok (.iconst 1, 1))) ∧ ((decode cX11_place 40 = .ok (.isub, 1)) ∧ (decode cX11_place 41 = .ok (.ireturn, 1)))) ∧ (((decode cX11_line 0 = .ok (.aload_n 0, 1)) ∧ (decode cX11_line 1 = .ok (.iload_n 1, 1))) ∧ ((decode cX11_line 2 = .ok (.i2l, 1)) ∧ (decode cX11_line 3 = .ok (.iload_n 2, 1))))) ∧ ((((decode cX11_line 4 = .ok (.i2l, 1)) ∧ (decode cX11_line 5 = .ok (.iload_n 3, 1))) ∧ ((decode cX11_line 6 = .ok (.i2l, 1)) ∧ (decode cX11_line 7 = .ok (.iload 4, 2)))) ∧ (((decode cX11_line 9 = .ok (.i2l, 1)) ∧ (decode cX11_line 10 = .ok (.iload 5, 2))) ∧ ((decode cX11_line 12 = .ok (.i2l, 1)) ∧ (decode cX11_line 13 = .ok (.invokevirtual 100, 3))))) := by first | decide +kernel | ((repeat' apply And.intro) <;> decide +kernel)
theorem dX11_place_36 : decode cX11_place 36 = .ok (.getfield 94, 3) := dB_36_2_33.1.1.1.1
theorem dX11_place_39 : decode cX11_place 39 = .ok (.iconst 1, 1) := dB_36_2_33.1.1.1.2
theorem dX11_place_40 : decode cX11_place 40 = .ok (.isub, 1) := dB_36_2_33.1.1.2.1
theorem dX11_place_41 : decode cX11_place 41 = .ok (.ireturn, 1) := dB_36_2_33.1.1.2.2
theorem dX11_line_0 : decode cX11_line 0 = .ok (.aload_n 0, 1) := dB_36_2_33.1.2.1.1
theorem dX11_line_1 : decode cX11_line 1 = .ok (.iload_n 1, 1) := dB_36_2_33.1.2.1.2
theorem dX11_line_2 : decode cX11_line 2 = .ok (.i2l, 1) := dB_36_2_33.1.2.2.1
theorem dX11_line_3 : decode cX11_line 3 = .ok (.iload_n 2, 1) := dB_36_2_33.1.2.2.2
theorem dX11_line_4 : decode cX11_line 4 = .ok (.i2l, 1) := dB_36_2_33.2.1.1.1
theorem dX11_line_5 : decode cX11_line 5 = .ok (.iload_n 3, 1) := dB_36_2_33.2.1.1.2
theorem dX11_line_6 : decode cX11_line 6 = .ok (.i2l, 1) := dB_36_2_33.2.1.2.1
theorem dX11_line_7 : decode cX11_line 7 = .ok (.iload 4, 2) := dB_36_2_33.2.1.2.2
theorem dX11_line_9 : decode cX11_line 9 = .ok (.i2l, 1) := dB_36_2_33.2.2.1.1
theorem dX11_line_10 : decode cX11_line 10 = .ok (.iload 5, 2) := dB_36_2_33.2.2.1.2
theorem dX11_line_12 : decode cX11_line 12 = .ok (.i2l, 1) := dB_36_2_33.2.2.2.1
theorem dX11_line_13 : decode cX11_line 13 = .ok (.invokevirtual 100, 3) := dB_36_2_33.2.2.2.2
theorem dB_36_2_34 : ((((decode cX11_line 16 = .ok (.istore 6, 2)) ∧ (decode cX11_line 18 = .ok (.iload 6, 2))) ∧ ((decode cX11_line 20 = .ok (.ifCond .eq 6, 3)) ∧ (decode cX11_line 23 = .ok (.iload 6, 2)))) ∧ (((decode cX11_line 25 = .ok (.ireturn, 1)) ∧ (decode cX11_line 26 = .ok (.aload_n 0, 1))) ∧ ((decode cX11_line 27 = .ok (.invokevirtual 97, 3)) ∧ (decode cX11_line 30 = .ok (.aload_n 0, 1))))) ∧ ((((decode cX11_line 31 = .ok (.dup, 1)) ∧ (decode cX11_line 32 = .ok (.getfield 87, 3))) ∧ ((decode cX11_line 35 = .ok (.aload_n 0, 1)) ∧ (decode cX11_line 36 = .ok (.getfield 22, 3)))) ∧ (((decode cX11_line 39 = .ok (.iload_n 1, 1)) ∧ (decode cX11_line 40 = .ok (.aaload, 1))) ∧ ((decode cX11_line 41 = .ok (.invokevirtual 104, 3)) ∧ (decode cX11_line 44 = .ok (.i2l, 1))))) := by first | decide +kernel | ((repeat' apply And.intro) <;> decide +kernel)
theorem dX11_line_16 : decode cX11_line 16 = .ok (.istore 6, 2) := dB_36_2_34.1.1.1.1
theorem dX11_line_18 : decode cX11_line 18 = .ok (.iload 6, 2) := dB_36_2_34.1.1.1.2
theorem dX11_line_20 : decode cX11_line 20 = .ok (.ifCond .eq 6, 3) := dB_36_2_34.1.1.2.1
theorem dX11_line_23 : decode cX11_line 23 = .ok (.iload 6, 2) := dB_36_2_34.1.1.2.2
theorem dX11_line_25 : decode cX11_line 25 = .ok (.ireturn, 1) := dB_36_2_34.1.2.1.1
theorem dX11_line_26 : decode cX11_line 26 = .ok (.aload_n 0, 1) := dB_36_2_34.1.2.1.2
theorem dX11_line_27 : decode cX11_line 27 = .ok (.invokevirtual 97, 3) := dB_36_2_34.1.2.2.1
theorem dX11_line_30 : decode cX11_line 30 = .ok (.aload_n 0, 1) := dB_36_2_34.1.2.2.2
theorem dX11_line_31 : decode cX11_line 31 = .ok (.dup, 1) := dB_36_2_34.2.1.1.1
theorem dX11_line_32 : decode cX11_line 32 = .ok (.getfield 87, 3) := dB_36_2_34.2.1.1.2
theorem dX11_line_35 : decode cX11_line 35 = .ok (.aload_n 0, 1) := dB_36_2_34.2.1.2.1
theorem dX11_line_36 : decode cX11_line 36 = .ok (.getfield 22, 3) := dB_36_2_34.2.1.2.2
theorem dX11_line_39 : decode cX11_line 39 = .ok (.iload_n 1, 1) := dB_36_2_34.2.2.1.1
theorem dX11_line_40 : decode cX11_line 40 = .ok (.aaload, 1) := dB_36_2_34.2.2.1.2
theorem dX11_line_41 : decode cX11_line 41 = .ok (.invokevirtual 104, 3) := dB_36_2_34.2.2.2.1
theorem dX11_line_44 : decode cX11_line 44 = .ok (.i2l, 1) := dB_36_2_34.2.2.2.2
theorem dB_36_2_35 : ((((decode cX11_line 45 = .ok (.ladd, 1)) ∧ (decode cX11_line 46 = .ok (.putfield 87, 3))) ∧ ((decode cX11_line 49 = .ok (.aload_n 0, 1)) ∧ (decode cX11_line 50 = .ok (.iload_n 1, 1)))) ∧ (((decode cX11_line 51 = .ok (.iload_n 2, 1)) ∧ (decode cX11_line 52 = .ok (.iload_n 3, 1))) ∧ ((decode cX11_line 53 = .ok (.iload 4, 2)) ∧ (decode cX11_line 55 = .ok (.iload 5, 2))))) ∧ ((((decode cX11_line 57 = .ok (.invokevirtual 108, 3)) ∧ (decode cX11_line 60 = .ok (.ireturn, 1))) ∧ ((decode cX11_widen 0 = .ok (.aload_n 0, 1)) ∧ (decode cX11_widen 1 = .ok (.getfield 31, 3)))) ∧ (((decode cX11_widen 4 = .ok (.iload_n 1, 1)) ∧ (decode cX11_widen 5 = .ok (.invokevirtual 112, 3))) ∧ ((decode cX11_widen 8 = .ok (.ifCond .eq 14, 3)) ∧ (decode cX11_widen 11 = .ok (.iload_n 2, 1))))) := by first | decide +kernel | ((repeat' apply And.intro) <;> decide +kernel)
theorem dX11_line_45 : decode cX11_line 45 = .ok (.ladd, 1) := dB_36_2_35.1.1.1.1
theorem dX11_line_46 : decode cX11_line 46 = .ok (.putfield 87, 3) := dB_36_2_35.1.1.1.2
theorem dX11_line_49 : decode cX11_line 49 = .ok (.aload_n 0, 1) := dB_36_2_35.1.1.2.1
theorem dX11_line_50 : decode cX11_line 50 = .ok (.iload_n 1, 1) := dB_36_2_35.1.1.2.2
theorem dX11_line_51 : decode cX11_line 51 = .ok (.iload_n 2, 1) := dB_36_2_35.1.2.1.1
theorem dX11_line_52 : decode cX11_line 52 = .ok (.iload_n 3, 1) := dB_36_2_35.1.2.1.2
theorem dX11_line_53 : decode cX11_line 53 = .ok (.iload 4, 2) := dB_36_2_35.1.2.2.1
theorem dX11_line_55 : decode cX11_line 55 = .ok (.iload 5, 2) := dB_36_2_35.1.2.2.2
theorem dX11_line_57 : decode cX11_line 57 = .ok (.invokevirtual 108, 3) := dB_36_2_35.2.1.1.1
theorem dX11_line_60 : decode cX11_line 60 = .ok (.ireturn, 1) := dB_36_2_35.2.1.1.2
theorem dX11_widen_0 : decode cX11_widen 0 = .ok (.aload_n 0, 1) := dB_36_2_35.2.1.2.1
theorem dX11_widen_1 : decode cX11_widen 1 = .ok (.getfield 31, 3) := dB_36_2_35.2.1.2.2
theorem dX11_widen_4 : decode cX11_widen 4 = .ok (.iload_n 1, 1) := dB_36_2_35.2.2.1.1
theorem dX11_widen_5 : decode cX11_widen 5 = .ok (.invokevirtual 112, 3) := dB_36_2_35.2.2.1.2
theorem dX11_widen_8 : decode cX11_widen 8 = .ok (.ifCond .eq 14, 3) := dB_36_2_35.2.2.2.1
theorem dX11_widen_11 : decode cX11_widen 11 = .ok (.iload_n 2, 1) := dB_36_2_35.2.2.2.2
theorem dB_36_2_36 : ((((decode cX11_widen 12 = .ok (.ifCond .lt 10, 3)) ∧ (decode cX11_widen 15 = .ok (.iload_n 2, 1))) ∧ ((decode cX11_widen 16 = .ok (.sipush 1000, 3)) ∧ (decode cX11_widen 19 = .ok (.if_icmp .le 5, 3)))) ∧ (((decode cX11_widen 22 = .ok (.iconst (-1), 1)) ∧ (decode cX11_widen 23 = .ok (.ireturn, 1))) ∧ ((decode cX11_widen 24 = .ok (.aload_n 0, 1)) ∧ (decode cX11_widen 25 = .ok (.getfield 22, 3))))) ∧ ((((decode cX11_widen 28 = .ok (.aload_n 0, 1)) ∧ (decode cX11_widen 29 = .ok (.getfield 31, 3))) ∧ ((decode cX11_widen 32 = .ok (.getfield 116, 3)) ∧ (decode cX11_widen 35 = .ok (.iload_n 1, 1)))) ∧ (((decode cX11_widen 36 = .ok (.iaload, 1)) ∧ (decode cX11_widen 37 = .ok (.aaload, 1))) ∧ ((decode cX11_widen 38 = .ok (.astore_n 3, 1)) ∧ (decode cX11_widen 39 = .ok (.aload_n 3, 1))))) := by first | decide +kernel | ((repeat' apply And.intro) <;> decide +kernel)
theorem dX11_widen_12 : decode cX11_widen 12 = .ok (.ifCond .lt 10, 3) := dB_36_2_36.1.1.1.1
theorem dX11_widen_15 : decode cX11_widen 15 = .ok (.iload_n 2, 1) := dB_36_2_36.1.1.1.2
theorem dX11_widen_16 : decode cX11_widen 16 = .ok (.sipush 1000, 3) := dB_36_2_36.1.1.2.1
theorem dX11_widen_19 : decode cX11_widen 19 = .ok (.if_icmp .le 5, 3) := dB_36_2_36.1.1.2.2
theorem dX11_widen_22 : decode cX11_widen 22 = .ok (.iconst (-1), 1) := dB_36_2_36.1.2.1.1
theorem dX11_widen_23 : decode cX11_widen 23 = .ok (.ireturn, 1) := dB_36_2_36.1.2.1.2
theorem dX11_widen_24 : decode cX11_widen 24 = .ok (.aload_n 0, 1) := dB_36_2_36.1.2.2.1
theorem dX11_widen_25 : decode cX11_widen 25 = .ok (.getfield 22, 3) := dB_36_2_36.1.2.2.2
theorem dX11_widen_28 : decode cX11_widen 28 = .ok (.aload_n 0, 1) := dB_36_2_36.2.1.1.1
theorem dX11_widen_29 : decode cX11_widen 29 = .ok (.getfield 31, 3) := dB_36_2_36.2.1.1.2
theorem dX11_widen_32 : decode cX11_widen 32 = .ok (.getfield 116, 3) := dB_36_2_36.2.1.2.1
theorem dX11_widen_35 : decode cX11_widen 35 = .ok (.iload_n 1, 1) := dB_36_2_36.2.1.2.2
theorem dX11_widen_36 : decode cX11_widen 36 = .ok (.iaload, 1) := dB_36_2_36.2.2.1.1
theorem dX11_widen_37 : decode cX11_widen 37 = .ok (.aaload, 1) := dB_36_2_36.2.2.1.2
theorem dX11_widen_38 : decode cX11_widen 38 = .ok (.astore_n 3, 1) := dB_36_2_36.2.2.2.1
theorem dX11_widen_39 : decode cX11_widen 39 = .ok (.aload_n 3, 1) := dB_36_2_36.2.2.2.2
theorem dB_36_2_37 : ((((decode cX11_widen 40 = .ok (.aload_n 0, 1)) ∧ (decode cX11_widen 41 = .ok (.getfield 31, 3))) ∧ ((decode cX11_widen 44 = .ok (.getfield 119, 3)) ∧ (decode cX11_widen 47 = .ok (.iload_n 1, 1)))) ∧ (((decode cX11_widen 48 = .ok (.iaload, 1)) ∧ (decode cX11_widen 49 = .ok (.invokevirtual 122, 3))) ∧ ((decode cX11_widen 52 = .ok (.istore 4, 2)) ∧ (decode cX11_widen 54 = .ok (.iload 4, 2))))) ∧ ((((decode cX11_widen 56 = .ok (.bipush (-9), 2)) ∧ (decode cX11_widen 58 = .ok (.if_icmp .eq 31, 3))) ∧ ((decode cX11_widen 61 = .ok (.aload_n 0, 1)) ∧ (decode cX11_widen 62 = .ok (.getfield 31, 3)))) ∧ (((decode cX11_widen 65 = .ok (.iload_n 1, 1)) ∧ (decode cX11_widen 66 = .ok (.invokevirtual 126, 3))) ∧ ((decode cX11_widen 69 = .ok (.ifCond .ne 20, 3)) ∧ (decode cX11_widen 72 = .ok (.aload_n 0, 1))))) := by first | decide +kernel | ((repeat' apply And.intro) <;> decide +kernel)
theorem dX11_widen_40 : decode cX11_widen 40 = .ok (.aload_n 0, 1) := dB_36_2_37.1.1.1.1
theorem dX11_widen_41 : decode cX11_widen 41 = .ok (.getfield 31, 3) := dB_36_2_37.1.1.1.2
theorem dX11_widen_44 : decode cX11_widen 44 = .ok (.getfield 119, 3) := dB_36_2_37.1.1.2.1
theorem dX11_widen_47 : decode cX11_widen 47 = .ok (.iload_n 1, 1) := dB_36_2_37.1.1.2.2
theorem dX11_widen_48 : decode cX11_widen 48 = .ok (.iaload, 1) := dB_36_2_37.1.2.1.1
theorem dX11_widen_49 : decode cX11_widen 49 = .ok (.invokevirtual 122, 3) := dB_36_2_37.1.2.1.2
theorem dX11_widen_52 : decode cX11_widen 52 = .ok (.istore 4, 2) := dB_36_2_37.1.2.2.1
theorem dX11_widen_54 : decode cX11_widen 54 = .ok (.iload 4, 2) := dB_36_2_37.1.2.2.2
theorem dX11_widen_56 : decode cX11_widen 56 = .ok (.bipush (-9), 2) := dB_36_2_37.2.1.1.1
theorem dX11_widen_58 : decode cX11_widen 58 = .ok (.if_icmp .eq 31, 3) := dB_36_2_37.2.1.1.2
theorem dX11_widen_61 : decode cX11_widen 61 = .ok (.aload_n 0, 1) := dB_36_2_37.2.1.2.1
theorem dX11_widen_62 : decode cX11_widen 62 = .ok (.getfield 31, 3) := dB_36_2_37.2.1.2.2
theorem dX11_widen_65 : decode cX11_widen 65 = .ok (.iload_n 1, 1) := dB_36_2_37.2.2.1.1
theorem dX11_widen_66 : decode cX11_widen 66 = .ok (.invokevirtual 126, 3) := dB_36_2_37.2.2.1.2
theorem dX11_widen_69 : decode cX11_widen 69 = .ok (.ifCond .ne 20, 3) := dB_36_2_37.2.2.2.1
theorem dX11_widen_72 : decode cX11_widen 72 = .ok (.aload_n 0, 1) := dB_36_2_37.2.2.2.2
theorem dB_36_2_38 : ((((decode cX11_widen 73 = .ok (.getfield 31, 3)) ∧ (decode cX11_widen 76 = .ok (.getfield 129, 3))) ∧ ((decode cX11_widen 79 = .ok (.iload_n 1, 1)) ∧ (decode cX11_widen 80 = .ok (.iaload, 1)))) ∧ (((decode cX11_widen 81 = .ok (.iload_n 2, 1)) ∧ (decode cX11_widen 82 = .ok (.iadd, 1))) ∧ ((decode cX11_widen 83 = .ok (.sipush 2000, 3)) ∧ (decode cX11_widen 86 = .ok (.if_icmp .le 6, 3))))) ∧ ((((decode cX11_widen 89 = .ok (.bipush (-2), 2)) ∧ (decode cX11_widen 91 = .ok (.ireturn, 1))) ∧ ((decode cX11_widen 92 = .ok (.aload_n 0, 1)) ∧ (decode cX11_widen 93 = .ok (.invokevirtual 97, 3)))) ∧ (((decode cX11_widen 96 = .ok (.aload_n 0, 1)) ∧ (decode cX11_widen 97 = .ok (.dup, 1))) ∧ ((decode cX11_widen 98 = .ok (.getfield 87, 3)) ∧ (decode cX11_widen 101 = .ok (.aload_n 3, 1))))) := by first | decide +kernel | ((repeat' apply And.intro) <;> decide +kernel)
theorem dX11_widen_73 : decode cX11_widen 73 = .ok (.getfield 31, 3) := dB_36_2_38.1.1.1.1
theorem dX11_widen_76 : decode cX11_widen 76 = .ok (.getfield 129, 3) := dB_36_2_38.1.1.1.2
theorem dX11_widen_79 : decode cX11_widen 79 = .ok (.iload_n 1, 1) := dB_36_2_38.1.1.2.1
theorem dX11_widen_80 : decode cX11_widen 80 = .ok (.iaload, 1) := dB_36_2_38.1.1.2.2
theorem dX11_widen_81 : decode cX11_widen 81 = .ok (.iload_n 2, 1) := dB_36_2_38.1.2.1.1
theorem dX11_widen_82 : decode cX11_widen 82 = .ok (.iadd, 1) := dB_36_2_38.1.2.1.2
theorem dX11_widen_83 : decode cX11_widen 83 = .ok (.sipush 2000, 3) := dB_36_2_38.1.2.2.1
theorem dX11_widen_86 : decode cX11_widen 86 = .ok (.if_icmp .le 6, 3) := dB_36_2_38.1.2.2.2
theorem dX11_widen_89 : decode cX11_widen 89 = .ok (.bipush (-2), 2) := dB_36_2_38.2.1.1.1
theorem dX11_widen_91 : decode cX11_widen 91 = .ok (.ireturn, 1) := dB_36_2_38.2.1.1.2
theorem dX11_widen_92 : decode cX11_widen 92 = .ok (.aload_n 0, 1) := dB_36_2_38.2.1.2.1
theorem dX11_widen_93 : decode cX11_widen 93 = .ok (.invokevirtual 97, 3) := dB_36_2_38.2.1.2.2
theorem dX11_widen_96 : decode cX11_widen 96 = .ok (.aload_n 0, 1) := dB_36_2_38.2.2.1.1
theorem dX11_widen_97 : decode cX11_widen 97 = .ok (.dup, 1) := dB_36_2_38.2.2.1.2
theorem dX11_widen_98 : decode cX11_widen 98 = .ok (.getfield 87, 3) := dB_36_2_38.2.2.2.1
theorem dX11_widen_101 : decode cX11_widen 101 = .ok (.aload_n 3, 1) := dB_36_2_38.2.2.2.2
theorem dB_36_2_39 : ((((decode cX11_widen 102 = .ok (.invokevirtual 132, 3)) ∧ (decode cX11_widen 105 = .ok (.i2l, 1))) ∧ ((decode cX11_widen 106 = .ok (.ladd, 1)) ∧ (decode cX11_widen 107 = .ok (.putfield 87, 3)))) ∧ (((decode cX11_widen 110 = .ok (.aload_n 0, 1)) ∧ (decode cX11_widen 111 = .ok (.getfield 31, 3))) ∧ ((decode cX11_widen 114 = .ok (.getfield 129, 3)) ∧ (decode cX11_widen 117 = .ok (.iload_n 1, 1))))) ∧ ((((decode cX11_widen 118 = .ok (.dup2, 1)) ∧ (decode cX11_widen 119 = .ok (.iaload, 1))) ∧ ((decode cX11_widen 120 = .ok (.iload_n 2, 1)) ∧ (decode cX11_widen 121 = .ok (.iadd, 1)))) ∧ (((decode cX11_widen 122 = .ok (.iastore, 1)) ∧ (decode cX11_widen 123 = .ok (.iload 4, 2))) ∧ ((decode cX11_widen 125 = .ok (.iload_n 2, 1)) ∧ (decode cX11_widen 126 = .ok (.imul, 1))))) := by first | decide +kernel | ((repeat' apply And.intro) <;> decide +kernel)
theorem dX11_widen_102 : decode cX11_widen 102 = .ok (.invokevirtual 132, 3) := dB_36_2_39.1.1.1.1
theorem dX11_widen_105 : decode cX11_widen 105 = .ok (.i2l, 1) := dB_36_2_39.1.1.1.2
theorem dX11_widen_106 : decode cX11_widen 106 = .ok (.ladd, 1) := dB_36_2_39.1.1.2.1
theorem dX11_widen_107 : decode cX11_widen 107 = .ok (.putfield 87, 3) := dB_36_2_39.1.1.2.2
theorem dX11_widen_110 : decode cX11_widen 110 = .ok (.aload_n 0, 1) := dB_36_2_39.1.2.1.1
theorem dX11_widen_111 : decode cX11_widen 111 = .ok (.getfield 31, 3) := dB_36_2_39.1.2.1.2
theorem dX11_widen_114 : decode cX11_widen 114 = .ok (.getfield 129, 3) := dB_36_2_39.1.2.2.1
theorem dX11_widen_117 : decode cX11_widen 117 = .ok (.iload_n 1, 1) := dB_36_2_39.1.2.2.2
theorem dX11_widen_118 : decode cX11_widen 118 = .ok (.dup2, 1) := dB_36_2_39.2.1.1.1
theorem dX11_widen_119 : decode cX11_widen 119 = .ok (.iaload, 1) := dB_36_2_39.2.1.1.2
theorem dX11_widen_120 : decode cX11_widen 120 = .ok (.iload_n 2, 1) := dB_36_2_39.2.1.2.1
theorem dX11_widen_121 : decode cX11_widen 121 = .ok (.iadd, 1) := dB_36_2_39.2.1.2.2
theorem dX11_widen_122 : decode cX11_widen 122 = .ok (.iastore, 1) := dB_36_2_39.2.2.1.1
theorem dX11_widen_123 : decode cX11_widen 123 = .ok (.iload 4, 2) := dB_36_2_39.2.2.1.2
theorem dX11_widen_125 : decode cX11_widen 125 = .ok (.iload_n 2, 1) := dB_36_2_39.2.2.2.1
theorem dX11_widen_126 : decode cX11_widen 126 = .ok (.imul, 1) := dB_36_2_39.2.2.2.2
theorem dB_36_2_40 : ((((decode cX11_widen 127 = .ok (.ireturn, 1)) ∧ (decode cX11_width 0 = .ok (.aload_n 0, 1))) ∧ ((decode cX11_width 1 = .ok (.getfield 31, 3)) ∧ (decode cX11_width 4 = .ok (.iload_n 1, 1)))) ∧ (((decode cX11_width 5 = .ok (.invokevirtual 112, 3)) ∧ (decode cX11_width 8 = .ok (.ifCond .eq 14, 3))) ∧ ((decode cX11_width 11 = .ok (.iload_n 2, 1)) ∧ (decode cX11_width 12 = .ok (.ifCond .lt 10, 3))))) ∧ ((((decode cX11_width 15 = .ok (.iload_n 2, 1)) ∧ (decode cX11_width 16 = .ok (.sipush 1000, 3))) ∧ ((decode cX11_width 19 = .ok (.if_icmp .le 5, 3)) ∧ (decode cX11_width 22 = .ok (.iconst (-1), 1)))) ∧ (((decode cX11_width 23 = .ok (.ireturn, 1)) ∧ (decode cX11_width 24 = .ok (.aload_n 0, 1))) ∧ ((decode cX11_width 25 = .ok (.getfield 31, 3)) ∧ (decode cX11_width 28 = .ok (.iload_n 1, 1))))) := by first | decide +kernel | ((repeat' apply And.intro) <;> decide +kernel)
theorem dX11_widen_127 : decode cX11_widen 127 = .ok (.ireturn, 1) := dB_36_2_40.1.1.1.1
theorem dX11_width_0 : decode cX11_width 0 = .ok (.aload_n 0, 1) := dB_36_2_40.1.1.1.2
theorem dX11_width_1 : decode cX11_width 1 = .ok (.getfield 31, 3) := dB_36_2_40.1.1.2.1
theorem dX11_width_4 : decode cX11_width 4 = .ok (.iload_n 1, 1) := dB_36_2_40.1.1.2.2
theorem dX11_width_5 : decode cX11_width 5 = .ok (.invokevirtual 112, 3) := dB_36_2_40.1.2.1.1
theorem dX11_width_8 : decode cX11_width 8 = .ok (.ifCond .eq 14, 3) := dB_36_2_40.1.2.1.2
theorem dX11_width_11 : decode cX11_width 11 = .ok (.iload_n 2, 1) := dB_36_2_40.1.2.2.1
theorem dX11_width_12 : decode cX11_width 12 = .ok (.ifCond .lt 10, 3) := dB_36_2_40.1.2.2.2
theorem dX11_width_15 : decode cX11_width 15 = .ok (.iload_n 2, 1) := dB_36_2_40.2.1.1.1
theorem dX11_width_16 : decode cX11_width 16 = .ok (.sipush 1000, 3) := dB_36_2_40.2.1.1.2
theorem dX11_width_19 : decode cX11_width 19 = .ok (.if_icmp .le 5, 3) := dB_36_2_40.2.1.2.1
theorem dX11_width_22 : decode cX11_width 22 = .ok (.iconst (-1), 1) := dB_36_2_40.2.1.2.2
theorem dX11_width_23 : decode cX11_width 23 = .ok (.ireturn, 1) := dB_36_2_40.2.2.1.1
theorem dX11_width_24 : decode cX11_width 24 = .ok (.aload_n 0, 1) := dB_36_2_40.2.2.1.2
theorem dX11_width_25 : decode cX11_width 25 = .ok (.getfield 31, 3) := dB_36_2_40.2.2.2.1
theorem dX11_width_28 : decode cX11_width 28 = .ok (.iload_n 1, 1) := dB_36_2_40.2.2.2.2
theorem dB_36_2_41 : ((((decode cX11_width 29 = .ok (.invokevirtual 126, 3)) ∧ (decode cX11_width 32 = .ok (.ifCond .eq 6, 3))) ∧ ((decode cX11_width 35 = .ok (.bipush (-2), 2)) ∧ (decode cX11_width 37 = .ok (.ireturn, 1)))) ∧ (((decode cX11_width 38 = .ok (.aload_n 0, 1)) ∧ (decode cX11_width 39 = .ok (.invokevirtual 97, 3))) ∧ ((decode cX11_width 42 = .ok (.aload_n 0, 1)) ∧ (decode cX11_width 43 = .ok (.getfield 31, 3))))) ∧ ((((decode cX11_width 46 = .ok (.getfield 129, 3)) ∧ (decode cX11_width 49 = .ok (.iload_n 1, 1))) ∧ ((decode cX11_width 50 = .ok (.iaload, 1)) ∧ (decode cX11_width 51 = .ok (.istore_n 3, 1)))) ∧ (((decode cX11_width 52 = .ok (.aload_n 0, 1)) ∧ (decode cX11_width 53 = .ok (.getfield 31, 3))) ∧ ((decode cX11_width 56 = .ok (.getfield 129, 3)) ∧ (decode cX11_width 59 = .ok (.iload_n 1, 1))))) := by first | decide +kernel | ((repeat' apply And.intro) <;> decide +kernel)
theorem dX11_width_29 : decode cX11_width 29 = .ok (.invokevirtual 126, 3) := dB_36_2_41.1.1.1.1
theorem dX11_width_32 : decode cX11_width 32 = .ok (.ifCond .eq 6, 3) := dB_36_2_41.1.1.1.2
theorem dX11_width_35 : decode cX11_width 35 = .ok (.bipush (-2), 2) := dB_36_2_41.1.1.2.1
theorem dX11_width_37 : decode cX11_width 37 = .ok (.ireturn, 1) := dB_36_2_41.1.1.2.2
theorem dX11_width_38 : decode cX11_width 38 = .ok (.aload_n 0, 1) := dB_36_2_41.1.2.1.1
theorem dX11_width_39 : decode cX11_width 39 = .ok (.invokevirtual 97, 3) := dB_36_2_41.1.2.1.2
theorem dX11_width_42 : decode cX11_width 42 = .ok (.aload_n 0, 1) := dB_36_2_41.1.2.2.1
theorem dX11_width_43 : decode cX11_width 43 = .ok (.getfield 31, 3) := dB_36_2_41.1.2.2.2
theorem dX11_width_46 : decode cX11_width 46 = .ok (.getfield 129, 3) := dB_36_2_41.2.1.1.1
theorem dX11_width_49 : decode cX11_width 49 = .ok (.iload_n 1, 1) := dB_36_2_41.2.1.1.2
theorem dX11_width_50 : decode cX11_width 50 = .ok (.iaload, 1) := dB_36_2_41.2.1.2.1
theorem dX11_width_51 : decode cX11_width 51 = .ok (.istore_n 3, 1) := dB_36_2_41.2.1.2.2
theorem dX11_width_52 : decode cX11_width 52 = .ok (.aload_n 0, 1) := dB_36_2_41.2.2.1.1
theorem dX11_width_53 : decode cX11_width 53 = .ok (.getfield 31, 3) := dB_36_2_41.2.2.1.2
theorem dX11_width_56 : decode cX11_width 56 = .ok (.getfield 129, 3) := dB_36_2_41.2.2.2.1
theorem dX11_width_59 : decode cX11_width 59 = .ok (.iload_n 1, 1) := dB_36_2_41.2.2.2.2
theorem dB_36_2_42 : ((((decode cX11_width 60 = .ok (.iload_n 2, 1)) ∧ (decode cX11_width 61 = .ok (.iastore, 1))) ∧ ((decode cX11_width 62 = .ok (.iload_n 3, 1)) ∧ (decode cX11_width 63 = .ok (.ireturn, 1)))) ∧ (((decode cX11_merge 0 = .ok (.aload_n 0, 1)) ∧ (decode cX11_merge 1 = .ok (.getfield 31, 3))) ∧ ((decode cX11_merge 4 = .ok (.iload_n 1, 1)) ∧ (decode cX11_merge 5 = .ok (.i2l, 1))))) ∧ ((((decode cX11_merge 6 = .ok (.iload_n 2, 1)) ∧ (decode cX11_merge 7 = .ok (.i2l, 1))) ∧ ((decode cX11_merge 8 = .ok (.invokevirtual 135, 3)) ∧ (decode cX11_merge 11 = .ok (.ifCond .ne 5, 3)))) ∧ (((decode cX11_merge 14 = .ok (.iconst (-1), 1)) ∧ (decode cX11_merge 15 = .ok (.ireturn, 1))) ∧ ((decode cX11_merge 16 = .ok (.aload_n 0, 1)) ∧ (decode cX11_merge 17 = .ok (.invokevirtual 97, 3))))) := by first | decide +kernel | ((repeat' apply And.intro) <;> decide +kernel)
theorem dX11_width_60 : decode cX11_width 60 = .ok (.iload_n 2, 1) := dB_36_2_42.1.1.1.1
theorem dX11_width_61 : decode cX11_width 61 = .ok (.iastore, 1) := dB_36_2_42.1.1.1.2
theorem dX11_width_62 : decode cX11_width 62 = .ok (.iload_n 3, 1) := dB_36_2_42.1.1.2.1
theorem dX11_width_63 : decode cX11_width 63 = .ok (.ireturn, 1) := dB_36_2_42.1.1.2.2
theorem dX11_merge_0 : decode cX11_merge 0 = .ok (.aload_n 0, 1) := dB_36_2_42.1.2.1.1
theorem dX11_merge_1 : decode cX11_merge 1 = .ok (.getfield 31, 3) := dB_36_2_42.1.2.1.2
theorem dX11_merge_4 : decode cX11_merge 4 = .ok (.iload_n 1, 1) := dB_36_2_42.1.2.2.1
theorem dX11_merge_5 : decode cX11_merge 5 = .ok (.i2l, 1) := dB_36_2_42.1.2.2.2
theorem dX11_merge_6 : decode cX11_merge 6 = .ok (.iload_n 2, 1) := dB_36_2_42.2.1.1.1
theorem dX11_merge_7 : decode cX11_merge 7 = .ok (.i2l, 1) := dB_36_2_42.2.1.1.2
theorem dX11_merge_8 : decode cX11_merge 8 = .ok (.invokevirtual 135, 3) := dB_36_2_42.2.1.2.1
theorem dX11_merge_11 : decode cX11_merge 11 = .ok (.ifCond .ne 5, 3) := dB_36_2_42.2.1.2.2
theorem dX11_merge_14 : decode cX11_merge 14 = .ok (.iconst (-1), 1) := dB_36_2_42.2.2.1.1
theorem dX11_merge_15 : decode cX11_merge 15 = .ok (.ireturn, 1) := dB_36_2_42.2.2.1.2
theorem dX11_merge_16 : decode cX11_merge 16 = .ok (.aload_n 0, 1) := dB_36_2_42.2.2.2.1
theorem dX11_merge_17 : decode cX11_merge 17 = .ok (.invokevirtual 97, 3) := dB_36_2_42.2.2.2.2
theorem dB_36_2_43 : ((((decode cX11_merge 20 = .ok (.aload_n 0, 1)) ∧ (decode cX11_merge 21 = .ok (.getfield 31, 3))) ∧ ((decode cX11_merge 24 = .ok (.iload_n 1, 1)) ∧ (decode cX11_merge 25 = .ok (.iload_n 2, 1)))) ∧ (((decode cX11_merge 26 = .ok (.invokestatic 139, 3)) ∧ (decode cX11_merge 29 = .ok (.iload_n 1, 1))) ∧ ((decode cX11_merge 30 = .ok (.iload_n 2, 1)) ∧ (decode cX11_merge 31 = .ok (.invokestatic 145, 3))))) ∧ ((((decode cX11_merge 34 = .ok (.invokevirtual 148, 3)) ∧ (decode cX11_merge 37 = .ok (.ireturn, 1))) ∧ ((decode cX11_undo 0 = .ok (.aload_n 0, 1)) ∧ (decode cX11_undo 1 = .ok (.getfield 84, 3)))) ∧ (((decode cX11_undo 4 = .ok (.ifCond .ne 6, 3)) ∧ (decode cX11_undo 7 = .ok (.bipush (-2), 2))) ∧ ((decode cX11_undo 9 = .ok (.ireturn, 1)) ∧ (decode cX11_undo 10 = .ok (.aload_n 0, 1))))) := by first | decide +kernel | ((repeat' apply And.intro) <;> decide +kernel)
theorem dX11_merge_20 : decode cX11_merge 20 = .ok (.aload_n 0, 1) := dB_36_2_43.1.1.1.1
theorem dX11_merge_21 : decode cX11_merge 21 = .ok (.getfield 31, 3) := dB_36_2_43.1.1.1.2
theorem dX11_merge_24 : decode cX11_merge 24 = .ok (.iload_n 1, 1) := dB_36_2_43.1.1.2.1
theorem dX11_merge_25 : decode cX11_merge 25 = .ok (.iload_n 2, 1) := dB_36_2_43.1.1.2.2
theorem dX11_merge_26 : decode cX11_merge 26 = .ok (.invokestatic 139, 3) := dB_36_2_43.1.2.1.1
theorem dX11_merge_29 : decode cX11_merge 29 = .ok (.iload_n 1, 1) := dB_36_2_43.1.2.1.2
theorem dX11_merge_30 : decode cX11_merge 30 = .ok (.iload_n 2, 1) := dB_36_2_43.1.2.2.1
theorem dX11_merge_31 : decode cX11_merge 31 = .ok (.invokestatic 145, 3) := dB_36_2_43.1.2.2.2
theorem dX11_merge_34 : decode cX11_merge 34 = .ok (.invokevirtual 148, 3) := dB_36_2_43.2.1.1.1
theorem dX11_merge_37 : decode cX11_merge 37 = .ok (.ireturn, 1) := dB_36_2_43.2.1.1.2
theorem dX11_undo_0 : decode cX11_undo 0 = .ok (.aload_n 0, 1) := dB_36_2_43.2.1.2.1
theorem dX11_undo_1 : decode cX11_undo 1 = .ok (.getfield 84, 3) := dB_36_2_43.2.1.2.2
theorem dX11_undo_4 : decode cX11_undo 4 = .ok (.ifCond .ne 6, 3) := dB_36_2_43.2.2.1.1
theorem dX11_undo_7 : decode cX11_undo 7 = .ok (.bipush (-2), 2) := dB_36_2_43.2.2.1.2
theorem dX11_undo_9 : decode cX11_undo 9 = .ok (.ireturn, 1) := dB_36_2_43.2.2.2.1
theorem dX11_undo_10 : decode cX11_undo 10 = .ok (.aload_n 0, 1) := dB_36_2_43.2.2.2.2
theorem dB_36_2_44 : ((((decode cX11_undo 11 = .ok (.dup, 1)) ∧ (decode cX11_undo 12 = .ok (.getfield 84, 3))) ∧ ((decode cX11_undo 15 = .ok (.iconst 1, 1)) ∧ (decode cX11_undo 16 = .ok (.isub, 1)))) ∧ (((decode cX11_undo 17 = .ok (.putfield 84, 3)) ∧ (decode cX11_undo 20 = .ok (.aload_n 0, 1))) ∧ ((decode cX11_undo 21 = .ok (.getfield 76, 3)) ∧ (decode cX11_undo 24 = .ok (.aload_n 0, 1))))) ∧ ((((decode cX11_undo 25 = .ok (.getfield 80, 3)) ∧ (decode cX11_undo 28 = .ok (.aload_n 0, 1))) ∧ ((decode cX11_undo 29 = .ok (.getfield 84, 3)) ∧ (decode cX11_undo 32 = .ok (.iadd, 1)))) ∧ (((decode cX11_undo 33 = .ok (.bipush 30, 2)) ∧ (decode cX11_undo 35 = .ok (.irem, 1))) ∧ ((decode cX11_undo 36 = .ok (.aaload, 1)) ∧ (decode cX11_undo 37 = .ok (.astore_n 1, 1))))) := by first | decide +kernel | ((repeat' apply And.intro) <;> decide +kernel)
theorem dX11_undo_11 : decode cX11_undo 11 = .ok (.dup, 1) := dB_36_2_44.1.1.1.1
theorem dX11_undo_12 : decode cX11_undo 12 = .ok (.getfield 84, 3) := dB_36_2_44.1.1.1.2
theorem dX11_undo_15 : decode cX11_undo 15 = .ok (.iconst 1, 1) := dB_36_2_44.1.1.2.1
theorem dX11_undo_16 : decode cX11_undo 16 = .ok (.isub, 1) := dB_36_2_44.1.1.2.2
theorem dX11_undo_17 : decode cX11_undo 17 = .ok (.putfield 84, 3) := dB_36_2_44.1.2.1.1
theorem dX11_undo_20 : decode cX11_undo 20 = .ok (.aload_n 0, 1) := dB_36_2_44.1.2.1.2
theorem dX11_undo_21 : decode cX11_undo 21 = .ok (.getfield 76, 3) := dB_36_2_44.1.2.2.1
theorem dX11_undo_24 : decode cX11_undo 24 = .ok (.aload_n 0, 1) := dB_36_2_44.1.2.2.2
theorem dX11_undo_25 : decode cX11_undo 25 = .ok (.getfield 80, 3) := dB_36_2_44.2.1.1.1
theorem dX11_undo_28 : decode cX11_undo 28 = .ok (.aload_n 0, 1) := dB_36_2_44.2.1.1.2
theorem dX11_undo_29 : decode cX11_undo 29 = .ok (.getfield 84, 3) := dB_36_2_44.2.1.2.1
theorem dX11_undo_32 : decode cX11_undo 32 = .ok (.iadd, 1) := dB_36_2_44.2.1.2.2
theorem dX11_undo_33 : decode cX11_undo 33 = .ok (.bipush 30, 2) := dB_36_2_44.2.2.1.1
theorem dX11_undo_35 : decode cX11_undo 35 = .ok (.irem, 1) := dB_36_2_44.2.2.1.2
theorem dX11_undo_36 : decode cX11_undo 36 = .ok (.aaload, 1) := dB_36_2_44.2.2.2.1
theorem dX11_undo_37 : decode cX11_undo 37 = .ok (.astore_n 1, 1) := dB_36_2_44.2.2.2.2
theorem dB_36_2_45 : ((((decode cX11_undo 38 = .ok (.aload_n 1, 1)) ∧ (decode cX11_undo 39 = .ok (.ifnull 11, 3))) ∧ ((decode cX11_undo 42 = .ok (.aload_n 0, 1)) ∧ (decode cX11_undo 43 = .ok (.getfield 31, 3)))) ∧ (((decode cX11_undo 46 = .ok (.aload_n 1, 1)) ∧ (decode cX11_undo 47 = .ok (.invokevirtual 151, 3))) ∧ ((decode cX11_undo 50 = .ok (.aload_n 0, 1)) ∧ (decode cX11_undo 51 = .ok (.getfield 84, 3))))) ∧ ((((decode cX11_undo 54 = .ok (.ireturn, 1)) ∧ (decode cX11_told 0 = .ok (.aload_n 0, 1))) ∧ ((decode cX11_told 1 = .ok (.getfield 31, 3)) ∧ (decode cX11_told 4 = .ok (.iload_n 1, 1)))) ∧ (((decode cX11_told 5 = .ok (.invokevirtual 112, 3)) ∧ (decode cX11_told 8 = .ok (.ifCond .ne 5, 3))) ∧ ((decode cX11_told 11 = .ok (.iconst (-1), 1)) ∧ (decode cX11_told 12 = .ok (.ireturn, 1))))) := by first | decide +kernel | ((repeat' apply And.intro) <;> decide +kernel)
theorem dX11_undo_38 : decode cX11_undo 38 = .ok (.aload_n 1, 1) := dB_36_2_45.1.1.1.1
theorem dX11_undo_39 : decode cX11_undo 39 = .ok (.ifnull 11, 3) := dB_36_2_45.1.1.1.2
theorem dX11_undo_42 : decode cX11_undo 42 = .ok (.aload_n 0, 1) := dB_36_2_45.1.1.2.1
theorem dX11_undo_43 : decode cX11_undo 43 = .ok (.getfield 31, 3) := dB_36_2_45.1.1.2.2
theorem dX11_undo_46 : decode cX11_undo 46 = .ok (.aload_n 1, 1) := dB_36_2_45.1.2.1.1
theorem dX11_undo_47 : decode cX11_undo 47 = .ok (.invokevirtual 151, 3) := dB_36_2_45.1.2.1.2
theorem dX11_undo_50 : decode cX11_undo 50 = .ok (.aload_n 0, 1) := dB_36_2_45.1.2.2.1
theorem dX11_undo_51 : decode cX11_undo 51 = .ok (.getfield 84, 3) := dB_36_2_45.1.2.2.2
theorem dX11_undo_54 : decode cX11_undo 54 = .ok (.ireturn, 1) := dB_36_2_45.2.1.1.1
theorem dX11_told_0 : decode cX11_told 0 = .ok (.aload_n 0, 1) := dB_36_2_45.2.1.1.2
theorem dX11_told_1 : decode cX11_told 1 = .ok (.getfield 31, 3) := dB_36_2_45.2.1.2.1
theorem dX11_told_4 : decode cX11_told 4 = .ok (.iload_n 1, 1) := dB_36_2_45.2.1.2.2
theorem dX11_told_5 : decode cX11_told 5 = .ok (.invokevirtual 112, 3) := dB_36_2_45.2.2.1.1
theorem dX11_told_8 : decode cX11_told 8 = .ok (.ifCond .ne 5, 3) := dB_36_2_45.2.2.1.2
theorem dX11_told_11 : decode cX11_told 11 = .ok (.iconst (-1), 1) := dB_36_2_45.2.2.2.1
theorem dX11_told_12 : decode cX11_told 12 = .ok (.ireturn, 1) := dB_36_2_45.2.2.2.2
theorem dB_36_2_46 : ((((decode cX11_told 13 = .ok (.iload_n 2, 1)) ∧ (decode cX11_told 14 = .ok (.tableswitch 105 0 5 #[38, 48, 58, 68, 78, 88], 38))) ∧ ((decode cX11_told 52 = .ok (.aload_n 0, 1)) ∧ (decode cX11_told 53 = .ok (.getfield 31, 3)))) ∧ (((decode cX11_told 56 = .ok (.getfield 116, 3)) ∧ (decode cX11_told 59 = .ok (.iload_n 1, 1))) ∧ ((decode cX11_told 60 = .ok (.iaload, 1)) ∧ (decode cX11_told 61 = .ok (.ireturn, 1))))) ∧ ((((decode cX11_told 62 = .ok (.aload_n 0, 1)) ∧ (decode cX11_told 63 = .ok (.getfield 31, 3))) ∧ ((decode cX11_told 66 = .ok (.getfield 155, 3)) ∧ (decode cX11_told 69 = .ok (.iload_n 1, 1)))) ∧ (((decode cX11_told 70 = .ok (.iaload, 1)) ∧ (decode cX11_told 71 = .ok (.ireturn, 1))) ∧ ((decode cX11_told 72 = .ok (.aload_n 0, 1)) ∧ (decode cX11_told 73 = .ok (.getfield 31, 3))))) := by first | decide +kernel | ((repeat' apply And.intro) <;> decide +kernel)
theorem dX11_told_13 : decode cX11_told 13 = .ok (.iload_n 2, 1) := dB_36_2_46.1.1.1.1
theorem dX11_told_14 : decode cX11_told 14 = .ok (.tableswitch 105 0 5 #[38, 48, 58, 68, 78, 88], 38) := dB_36_2_46.1.1.1.2
theorem dX11_told_52 : decode cX11_told 52 = .ok (.aload_n 0, 1) := dB_36_2_46.1.1.2.1
theorem dX11_told_53 : decode cX11_told 53 = .ok (.getfield 31, 3) := dB_36_2_46.1.1.2.2
theorem dX11_told_56 : decode cX11_told 56 = .ok (.getfield 116, 3) := dB_36_2_46.1.2.1.1
theorem dX11_told_59 : decode cX11_told 59 = .ok (.iload_n 1, 1) := dB_36_2_46.1.2.1.2
theorem dX11_told_60 : decode cX11_told 60 = .ok (.iaload, 1) := dB_36_2_46.1.2.2.1
theorem dX11_told_61 : decode cX11_told 61 = .ok (.ireturn, 1) := dB_36_2_46.1.2.2.2
theorem dX11_told_62 : decode cX11_told 62 = .ok (.aload_n 0, 1) := dB_36_2_46.2.1.1.1
theorem dX11_told_63 : decode cX11_told 63 = .ok (.getfield 31, 3) := dB_36_2_46.2.1.1.2
theorem dX11_told_66 : decode cX11_told 66 = .ok (.getfield 155, 3) := dB_36_2_46.2.1.2.1
theorem dX11_told_69 : decode cX11_told 69 = .ok (.iload_n 1, 1) := dB_36_2_46.2.1.2.2
theorem dX11_told_70 : decode cX11_told 70 = .ok (.iaload, 1) := dB_36_2_46.2.2.1.1
theorem dX11_told_71 : decode cX11_told 71 = .ok (.ireturn, 1) := dB_36_2_46.2.2.1.2
theorem dX11_told_72 : decode cX11_told 72 = .ok (.aload_n 0, 1) := dB_36_2_46.2.2.2.1
theorem dX11_told_73 : decode cX11_told 73 = .ok (.getfield 31, 3) := dB_36_2_46.2.2.2.2
theorem dB_36_2_47 : ((((decode cX11_told 76 = .ok (.getfield 158, 3)) ∧ (decode cX11_told 79 = .ok (.iload_n 1, 1))) ∧ ((decode cX11_told 80 = .ok (.iaload, 1)) ∧ (decode cX11_told 81 = .ok (.ireturn, 1)))) ∧ (((decode cX11_told 82 = .ok (.aload_n 0, 1)) ∧ (decode cX11_told 83 = .ok (.getfield 31, 3))) ∧ ((decode cX11_told 86 = .ok (.getfield 129, 3)) ∧ (decode cX11_told 89 = .ok (.iload_n 1, 1))))) ∧ ((((decode cX11_told 90 = .ok (.iaload, 1)) ∧ (decode cX11_told 91 = .ok (.ireturn, 1))) ∧ ((decode cX11_told 92 = .ok (.aload_n 0, 1)) ∧ (decode cX11_told 93 = .ok (.getfield 31, 3)))) ∧ (((decode cX11_told 96 = .ok (.getfield 119, 3)) ∧ (decode cX11_told 99 = .ok (.iload_n 1, 1))) ∧ ((decode cX11_told 100 = .ok (.iaload, 1)) ∧ (decode cX11_told 101 = .ok (.ireturn, 1))))) := by first | decide +kernel | ((repeat' apply And.intro) <;> decide +kernel)
theorem dX11_told_76 : decode cX11_told 76 = .ok (.getfield 158, 3) := dB_36_2_47.1.1.1.1
theorem dX11_told_79 : decode cX11_told 79 = .ok (.iload_n 1, 1) := dB_36_2_47.1.1.1.2
theorem dX11_told_80 : decode cX11_told 80 = .ok (.iaload, 1) := dB_36_2_47.1.1.2.1
theorem dX11_told_81 : decode cX11_told 81 = .ok (.ireturn, 1) := dB_36_2_47.1.1.2.2
theorem dX11_told_82 : decode cX11_told 82 = .ok (.aload_n 0, 1) := dB_36_2_47.1.2.1.1
theorem dX11_told_83 : decode cX11_told 83 = .ok (.getfield 31, 3) := dB_36_2_47.1.2.1.2
theorem dX11_told_86 : decode cX11_told 86 = .ok (.getfield 129, 3) := dB_36_2_47.1.2.2.1
theorem dX11_told_89 : decode cX11_told 89 = .ok (.iload_n 1, 1) := dB_36_2_47.1.2.2.2
theorem dX11_told_90 : decode cX11_told 90 = .ok (.iaload, 1) := dB_36_2_47.2.1.1.1
theorem dX11_told_91 : decode cX11_told 91 = .ok (.ireturn, 1) := dB_36_2_47.2.1.1.2
theorem dX11_told_92 : decode cX11_told 92 = .ok (.aload_n 0, 1) := dB_36_2_47.2.1.2.1
theorem dX11_told_93 : decode cX11_told 93 = .ok (.getfield 31, 3) := dB_36_2_47.2.1.2.2
theorem dX11_told_96 : decode cX11_told 96 = .ok (.getfield 119, 3) := dB_36_2_47.2.2.1.1
theorem dX11_told_99 : decode cX11_told 99 = .ok (.iload_n 1, 1) := dB_36_2_47.2.2.1.2
theorem dX11_told_100 : decode cX11_told 100 = .ok (.iaload, 1) := dB_36_2_47.2.2.2.1
theorem dX11_told_101 : decode cX11_told 101 = .ok (.ireturn, 1) := dB_36_2_47.2.2.2.2
theorem dB_36_2_48 : ((((decode cX11_told 102 = .ok (.aload_n 0, 1)) ∧ (decode cX11_told 103 = .ok (.getfield 31, 3))) ∧ ((decode cX11_told 106 = .ok (.iload_n 1, 1)) ∧ (decode cX11_told 107 = .ok (.invokevirtual 126, 3)))) ∧ (((decode cX11_told 110 = .ok (.ifCond .eq 7, 3)) ∧ (decode cX11_told 113 = .ok (.iconst 1, 1))) ∧ ((decode cX11_told 114 = .ok (.goto 4, 3)) ∧ (decode cX11_told 117 = .ok (.iconst 0, 1))))) ∧ ((((decode cX11_told 118 = .ok (.ireturn, 1)) ∧ (decode cX11_told 119 = .ok (.iconst (-1), 1))) ∧ ((decode cX11_told 120 = .ok (.ireturn, 1)) ∧ (decode cX11_ask 0 = .ok (.aload_n 0, 1)))) ∧ (((decode cX11_ask 1 = .ok (.getfield 31, 3)) ∧ (decode cX11_ask 4 = .ok (.iload_n 1, 1))) ∧ ((decode cX11_ask 5 = .ok (.invokevirtual 112, 3)) ∧ (decode cX11_ask 8 = .ok (.ifCond .eq 12, 3))))) := by first | decide +kernel | ((repeat' apply And.intro) <;> decide +kernel)
theorem dX11_told_102 : decode cX11_told 102 = .ok (.aload_n 0, 1) := dB_36_2_48.1.1.1.1
theorem dX11_told_103 : decode cX11_told 103 = .ok (.getfield 31, 3) := dB_36_2_48.1.1.1.2
theorem dX11_told_106 : decode cX11_told 106 = .ok (.iload_n 1, 1) := dB_36_2_48.1.1.2.1
theorem dX11_told_107 : decode cX11_told 107 = .ok (.invokevirtual 126, 3) := dB_36_2_48.1.1.2.2
theorem dX11_told_110 : decode cX11_told 110 = .ok (.ifCond .eq 7, 3) := dB_36_2_48.1.2.1.1
theorem dX11_told_113 : decode cX11_told 113 = .ok (.iconst 1, 1) := dB_36_2_48.1.2.1.2
theorem dX11_told_114 : decode cX11_told 114 = .ok (.goto 4, 3) := dB_36_2_48.1.2.2.1
theorem dX11_told_117 : decode cX11_told 117 = .ok (.iconst 0, 1) := dB_36_2_48.1.2.2.2
theorem dX11_told_118 : decode cX11_told 118 = .ok (.ireturn, 1) := dB_36_2_48.2.1.1.1
theorem dX11_told_119 : decode cX11_told 119 = .ok (.iconst (-1), 1) := dB_36_2_48.2.1.1.2
theorem dX11_told_120 : decode cX11_told 120 = .ok (.ireturn, 1) := dB_36_2_48.2.1.2.1
theorem dX11_ask_0 : decode cX11_ask 0 = .ok (.aload_n 0, 1) := dB_36_2_48.2.1.2.2
theorem dX11_ask_1 : decode cX11_ask 1 = .ok (.getfield 31, 3) := dB_36_2_48.2.2.1.1
theorem dX11_ask_4 : decode cX11_ask 4 = .ok (.iload_n 1, 1) := dB_36_2_48.2.2.1.2
theorem dX11_ask_5 : decode cX11_ask 5 = .ok (.invokevirtual 112, 3) := dB_36_2_48.2.2.2.1
theorem dX11_ask_8 : decode cX11_ask 8 = .ok (.ifCond .eq 12, 3) := dB_36_2_48.2.2.2.2
theorem dB_36_2_49 : ((((decode cX11_ask 11 = .ok (.iload_n 2, 1)) ∧ (decode cX11_ask 12 = .ok (.ifCond .lt 8, 3))) ∧ ((decode cX11_ask 15 = .ok (.iload_n 2, 1)) ∧ (decode cX11_ask 16 = .ok (.iconst 2, 1)))) ∧ (((decode cX11_ask 17 = .ok (.if_icmp .le 5, 3)) ∧ (decode cX11_ask 20 = .ok (.iconst (-1), 1))) ∧ ((decode cX11_ask 21 = .ok (.ireturn, 1)) ∧ (decode cX11_ask 22 = .ok (.aload_n 0, 1))))) ∧ ((((decode cX11_ask 23 = .ok (.getfield 22, 3)) ∧ (decode cX11_ask 26 = .ok (.aload_n 0, 1))) ∧ ((decode cX11_ask 27 = .ok (.getfield 31, 3)) ∧ (decode cX11_ask 30 = .ok (.getfield 116, 3)))) ∧ (((decode cX11_ask 33 = .ok (.iload_n 1, 1)) ∧ (decode cX11_ask 34 = .ok (.iaload, 1))) ∧ ((decode cX11_ask 35 = .ok (.aaload, 1)) ∧ (decode cX11_ask 36 = .ok (.astore_n 3, 1))))) := by first | decide +kernel | ((repeat' apply And.intro) <;> decide +kernel)
theorem dX11_ask_11 : decode cX11_ask 11 = .ok (.iload_n 2, 1) := dB_36_2_49.1.1.1.1
theorem dX11_ask_12 : decode cX11_ask 12 = .ok (.ifCond .lt 8, 3) := dB_36_2_49.1.1.1.2
theorem dX11_ask_15 : decode cX11_ask 15 = .ok (.iload_n 2, 1) := dB_36_2_49.1.1.2.1
theorem dX11_ask_16 : decode cX11_ask 16 = .ok (.iconst 2, 1) := dB_36_2_49.1.1.2.2
theorem dX11_ask_17 : decode cX11_ask 17 = .ok (.if_icmp .le 5, 3) := dB_36_2_49.1.2.1.1
theorem dX11_ask_20 : decode cX11_ask 20 = .ok (.iconst (-1), 1) := dB_36_2_49.1.2.1.2
theorem dX11_ask_21 : decode cX11_ask 21 = .ok (.ireturn, 1) := dB_36_2_49.1.2.2.1
theorem dX11_ask_22 : decode cX11_ask 22 = .ok (.aload_n 0, 1) := dB_36_2_49.1.2.2.2
theorem dX11_ask_23 : decode cX11_ask 23 = .ok (.getfield 22, 3) := dB_36_2_49.2.1.1.1
theorem dX11_ask_26 : decode cX11_ask 26 = .ok (.aload_n 0, 1) := dB_36_2_49.2.1.1.2
theorem dX11_ask_27 : decode cX11_ask 27 = .ok (.getfield 31, 3) := dB_36_2_49.2.1.2.1
theorem dX11_ask_30 : decode cX11_ask 30 = .ok (.getfield 116, 3) := dB_36_2_49.2.1.2.2
theorem dX11_ask_33 : decode cX11_ask 33 = .ok (.iload_n 1, 1) := dB_36_2_49.2.2.1.1
theorem dX11_ask_34 : decode cX11_ask 34 = .ok (.iaload, 1) := dB_36_2_49.2.2.1.2
theorem dX11_ask_35 : decode cX11_ask 35 = .ok (.aaload, 1) := dB_36_2_49.2.2.2.1
theorem dX11_ask_36 : decode cX11_ask 36 = .ok (.astore_n 3, 1) := dB_36_2_49.2.2.2.2
theorem dB_36_2_50 : ((((decode cX11_ask 37 = .ok (.iload_n 2, 1)) ∧ (decode cX11_ask 38 = .ok (.iconst 2, 1))) ∧ ((decode cX11_ask 39 = .ok (.if_icmp .ne 31, 3)) ∧ (decode cX11_ask 42 = .ok (.aload_n 0, 1)))) ∧ (((decode cX11_ask 43 = .ok (.dup, 1)) ∧ (decode cX11_ask 44 = .ok (.getfield 87, 3))) ∧ ((decode cX11_ask 47 = .ok (.aload_n 3, 1)) ∧ (decode cX11_ask 48 = .ok (.invokevirtual 132, 3))))) ∧ ((((decode cX11_ask 51 = .ok (.i2l, 1)) ∧ (decode cX11_ask 52 = .ok (.ladd, 1))) ∧ ((decode cX11_ask 53 = .ok (.putfield 87, 3)) ∧ (decode cX11_ask 56 = .ok (.aload_n 3, 1)))) ∧ (((decode cX11_ask 57 = .ok (.aload_n 0, 1)) ∧ (decode cX11_ask 58 = .ok (.getfield 31, 3))) ∧ ((decode cX11_ask 61 = .ok (.getfield 119, 3)) ∧ (decode cX11_ask 64 = .ok (.iload_n 1, 1))))) := by first | decide +kernel | ((repeat' apply And.intro) <;> decide +kernel)
theorem dX11_ask_37 : decode cX11_ask 37 = .ok (.iload_n 2, 1) := dB_36_2_50.1.1.1.1
theorem dX11_ask_38 : decode cX11_ask 38 = .ok (.iconst 2, 1) := dB_36_2_50.1.1.1.2
theorem dX11_ask_39 : decode cX11_ask 39 = .ok (.if_icmp .ne 31, 3) := dB_36_2_50.1.1.2.1
theorem dX11_ask_42 : decode cX11_ask 42 = .ok (.aload_n 0, 1) := dB_36_2_50.1.1.2.2
theorem dX11_ask_43 : decode cX11_ask 43 = .ok (.dup, 1) := dB_36_2_50.1.2.1.1
theorem dX11_ask_44 : decode cX11_ask 44 = .ok (.getfield 87, 3) := dB_36_2_50.1.2.1.2
theorem dX11_ask_47 : decode cX11_ask 47 = .ok (.aload_n 3, 1) := dB_36_2_50.1.2.2.1
theorem dX11_ask_48 : decode cX11_ask 48 = .ok (.invokevirtual 132, 3) := dB_36_2_50.1.2.2.2
theorem dX11_ask_51 : decode cX11_ask 51 = .ok (.i2l, 1) := dB_36_2_50.2.1.1.1
theorem dX11_ask_52 : decode cX11_ask 52 = .ok (.ladd, 1) := dB_36_2_50.2.1.1.2
theorem dX11_ask_53 : decode cX11_ask 53 = .ok (.putfield 87, 3) := dB_36_2_50.2.1.2.1
theorem dX11_ask_56 : decode cX11_ask 56 = .ok (.aload_n 3, 1) := dB_36_2_50.2.1.2.2
theorem dX11_ask_57 : decode cX11_ask 57 = .ok (.aload_n 0, 1) := dB_36_2_50.2.2.1.1
theorem dX11_ask_58 : decode cX11_ask 58 = .ok (.getfield 31, 3) := dB_36_2_50.2.2.1.2
theorem dX11_ask_61 : decode cX11_ask 61 = .ok (.getfield 119, 3) := dB_36_2_50.2.2.2.1
theorem dX11_ask_64 : decode cX11_ask 64 = .ok (.iload_n 1, 1) := dB_36_2_50.2.2.2.2
theorem dB_36_2_51 : ((((decode cX11_ask 65 = .ok (.iaload, 1)) ∧ (decode cX11_ask 66 = .ok (.invokevirtual 122, 3))) ∧ ((decode cX11_ask 69 = .ok (.ireturn, 1)) ∧ (decode cX11_ask 70 = .ok (.iload_n 2, 1)))) ∧ (((decode cX11_ask 71 = .ok (.ifCond .ne 7, 3)) ∧ (decode cX11_ask 74 = .ok (.iconst 1, 1))) ∧ ((decode cX11_ask 75 = .ok (.goto 4, 3)) ∧ (decode cX11_ask 78 = .ok (.iconst 0, 1))))) ∧ ((((decode cX11_ask 79 = .ok (.istore 4, 2)) ∧ (decode cX11_ask 81 = .ok (.aload_n 0, 1))) ∧ ((decode cX11_ask 82 = .ok (.dup, 1)) ∧ (decode cX11_ask 83 = .ok (.getfield 87, 3)))) ∧ (((decode cX11_ask 86 = .ok (.aload_n 3, 1)) ∧ (decode cX11_ask 87 = .ok (.iload 4, 2))) ∧ ((decode cX11_ask 89 = .ok (.invokevirtual 161, 3)) ∧ (decode cX11_ask 92 = .ok (.i2l, 1))))) := by first | decide +kernel | ((repeat' apply And.intro) <;> decide +kernel)
theorem dX11_ask_65 : decode cX11_ask 65 = .ok (.iaload, 1) := dB_36_2_51.1.1.1.1
theorem dX11_ask_66 : decode cX11_ask 66 = .ok (.invokevirtual 122, 3) := dB_36_2_51.1.1.1.2
theorem dX11_ask_69 : decode cX11_ask 69 = .ok (.ireturn, 1) := dB_36_2_51.1.1.2.1
theorem dX11_ask_70 : decode cX11_ask 70 = .ok (.iload_n 2, 1) := dB_36_2_51.1.1.2.2
theorem dX11_ask_71 : decode cX11_ask 71 = .ok (.ifCond .ne 7, 3) := dB_36_2_51.1.2.1.1
theorem dX11_ask_74 : decode cX11_ask 74 = .ok (.iconst 1, 1) := dB_36_2_51.1.2.1.2
theorem dX11_ask_75 : decode cX11_ask 75 = .ok (.goto 4, 3) := dB_36_2_51.1.2.2.1
theorem dX11_ask_78 : decode cX11_ask 78 = .ok (.iconst 0, 1) := dB_36_2_51.1.2.2.2
theorem dX11_ask_79 : decode cX11_ask 79 = .ok (.istore 4, 2) := dB_36_2_51.2.1.1.1
theorem dX11_ask_81 : decode cX11_ask 81 = .ok (.aload_n 0, 1) := dB_36_2_51.2.1.1.2
theorem dX11_ask_82 : decode cX11_ask 82 = .ok (.dup, 1) := dB_36_2_51.2.1.2.1
theorem dX11_ask_83 : decode cX11_ask 83 = .ok (.getfield 87, 3) := dB_36_2_51.2.1.2.2
theorem dX11_ask_86 : decode cX11_ask 86 = .ok (.aload_n 3, 1) := dB_36_2_51.2.2.1.1
theorem dX11_ask_87 : decode cX11_ask 87 = .ok (.iload 4, 2) := dB_36_2_51.2.2.1.2
theorem dX11_ask_89 : decode cX11_ask 89 = .ok (.invokevirtual 161, 3) := dB_36_2_51.2.2.2.1
theorem dX11_ask_92 : decode cX11_ask 92 = .ok (.i2l, 1) := dB_36_2_51.2.2.2.2
theorem dB_36_2_52 : ((((decode cX11_ask 93 = .ok (.ladd, 1)) ∧ (decode cX11_ask 94 = .ok (.putfield 87, 3))) ∧ ((decode cX11_ask 97 = .ok (.aload_n 3, 1)) ∧ (decode cX11_ask 98 = .ok (.aload_n 0, 1)))) ∧ (((decode cX11_ask 99 = .ok (.getfield 31, 3)) ∧ (decode cX11_ask 102 = .ok (.getfield 129, 3))) ∧ ((decode cX11_ask 105 = .ok (.iload_n 1, 1)) ∧ (decode cX11_ask 106 = .ok (.iaload, 1))))) ∧ ((((decode cX11_ask 107 = .ok (.iload 4, 2)) ∧ (decode cX11_ask 109 = .ok (.invokevirtual 165, 3))) ∧ ((decode cX11_ask 112 = .ok (.ireturn, 1)) ∧ (decode cX11_most 0 = .ok (.aload_n 0, 1)))) ∧ (((decode cX11_most 1 = .ok (.getfield 31, 3)) ∧ (decode cX11_most 4 = .ok (.iload_n 1, 1))) ∧ ((decode cX11_most 5 = .ok (.i2l, 1)) ∧ (decode cX11_most 6 = .ok (.iload_n 2, 1))))) := by first | decide +kernel | ((repeat' apply And.intro) <;> decide +kernel)
theorem dX11_ask_93 : decode cX11_ask 93 = .ok (.ladd, 1) := dB_36_2_52.1.1.1.1
theorem dX11_ask_94 : decode cX11_ask 94 = .ok (.putfield 87, 3) := dB_36_2_52.1.1.1.2
theorem dX11_ask_97 : decode cX11_ask 97 = .ok (.aload_n 3, 1) := dB_36_2_52.1.1.2.1
theorem dX11_ask_98 : decode cX11_ask 98 = .ok (.aload_n 0, 1) := dB_36_2_52.1.1.2.2
theorem dX11_ask_99 : decode cX11_ask 99 = .ok (.getfield 31, 3) := dB_36_2_52.1.2.1.1
theorem dX11_ask_102 : decode cX11_ask 102 = .ok (.getfield 129, 3) := dB_36_2_52.1.2.1.2
theorem dX11_ask_105 : decode cX11_ask 105 = .ok (.iload_n 1, 1) := dB_36_2_52.1.2.2.1
theorem dX11_ask_106 : decode cX11_ask 106 = .ok (.iaload, 1) := dB_36_2_52.1.2.2.2
theorem dX11_ask_107 : decode cX11_ask 107 = .ok (.iload 4, 2) := dB_36_2_52.2.1.1.1
theorem dX11_ask_109 : decode cX11_ask 109 = .ok (.invokevirtual 165, 3) := dB_36_2_52.2.1.1.2
theorem dX11_ask_112 : decode cX11_ask 112 = .ok (.ireturn, 1) := dB_36_2_52.2.1.2.1
theorem dX11_most_0 : decode cX11_most 0 = .ok (.aload_n 0, 1) := dB_36_2_52.2.1.2.2
theorem dX11_most_1 : decode cX11_most 1 = .ok (.getfield 31, 3) := dB_36_2_52.2.2.1.1
theorem dX11_most_4 : decode cX11_most 4 = .ok (.iload_n 1, 1) := dB_36_2_52.2.2.1.2
theorem dX11_most_5 : decode cX11_most 5 = .ok (.i2l, 1) := dB_36_2_52.2.2.2.1
theorem dX11_most_6 : decode cX11_most 6 = .ok (.iload_n 2, 1) := dB_36_2_52.2.2.2.2
theorem dB_36_2_53 : ((((decode cX11_most 7 = .ok (.i2l, 1)) ∧ (decode cX11_most 8 = .ok (.invokevirtual 135, 3))) ∧ ((decode cX11_most 11 = .ok (.ifCond .ne 5, 3)) ∧ (decode cX11_most 14 = .ok (.iconst (-1), 1)))) ∧ (((decode cX11_most 15 = .ok (.ireturn, 1)) ∧ (decode cX11_most 16 = .ok (.aload_n 0, 1))) ∧ ((decode cX11_most 17 = .ok (.iload_n 1, 1)) ∧ (decode cX11_most 18 = .ok (.iload_n 2, 1))))) ∧ ((((decode cX11_most 19 = .ok (.invokevirtual 169, 3)) ∧ (decode cX11_most 22 = .ok (.ireturn, 1))) ∧ ((decode cX11_flow 0 = .ok (.aload_n 0, 1)) ∧ (decode cX11_flow 1 = .ok (.getfield 31, 3)))) ∧ (((decode cX11_flow 4 = .ok (.iload_n 1, 1)) ∧ (decode cX11_flow 5 = .ok (.i2l, 1))) ∧ ((decode cX11_flow 6 = .ok (.iload_n 2, 1)) ∧ (decode cX11_flow 7 = .ok (.i2l, 1))))) := by first | decide +kernel | ((repeat' apply And.intro) <;> decide +kernel)
theorem dX11_most_7 : decode cX11_most 7 = .ok (.i2l, 1) := dB_36_2_53.1.1.1.1
theorem dX11_most_8 : decode cX11_most 8 = .ok (.invokevirtual 135, 3) := dB_36_2_53.1.1.1.2
theorem dX11_most_11 : decode cX11_most 11 = .ok (.ifCond .ne 5, 3) := dB_36_2_53.1.1.2.1
theorem dX11_most_14 : decode cX11_most 14 = .ok (.iconst (-1), 1) := dB_36_2_53.1.1.2.2
theorem dX11_most_15 : decode cX11_most 15 = .ok (.ireturn, 1) := dB_36_2_53.1.2.1.1
theorem dX11_most_16 : decode cX11_most 16 = .ok (.aload_n 0, 1) := dB_36_2_53.1.2.1.2
theorem dX11_most_17 : decode cX11_most 17 = .ok (.iload_n 1, 1) := dB_36_2_53.1.2.2.1
theorem dX11_most_18 : decode cX11_most 18 = .ok (.iload_n 2, 1) := dB_36_2_53.1.2.2.2
theorem dX11_most_19 : decode cX11_most 19 = .ok (.invokevirtual 169, 3) := dB_36_2_53.2.1.1.1
theorem dX11_most_22 : decode cX11_most 22 = .ok (.ireturn, 1) := dB_36_2_53.2.1.1.2
theorem dX11_flow_0 : decode cX11_flow 0 = .ok (.aload_n 0, 1) := dB_36_2_53.2.1.2.1
theorem dX11_flow_1 : decode cX11_flow 1 = .ok (.getfield 31, 3) := dB_36_2_53.2.1.2.2
theorem dX11_flow_4 : decode cX11_flow 4 = .ok (.iload_n 1, 1) := dB_36_2_53.2.2.1.1
theorem dX11_flow_5 : decode cX11_flow 5 = .ok (.i2l, 1) := dB_36_2_53.2.2.1.2
theorem dX11_flow_6 : decode cX11_flow 6 = .ok (.iload_n 2, 1) := dB_36_2_53.2.2.2.1
theorem dX11_flow_7 : decode cX11_flow 7 = .ok (.i2l, 1) := dB_36_2_53.2.2.2.2
theorem dB_36_2_54 : ((((decode cX11_flow 8 = .ok (.invokevirtual 135, 3)) ∧ (decode cX11_flow 11 = .ok (.ifCond .eq 25, 3))) ∧ ((decode cX11_flow 14 = .ok (.aload_n 0, 1)) ∧ (decode cX11_flow 15 = .ok (.getfield 31, 3)))) ∧ (((decode cX11_flow 18 = .ok (.iload_n 3, 1)) ∧ (decode cX11_flow 19 = .ok (.invokevirtual 112, 3))) ∧ ((decode cX11_flow 22 = .ok (.ifCond .eq 14, 3)) ∧ (decode cX11_flow 25 = .ok (.aload_n 0, 1))))) ∧ ((((decode cX11_flow 26 = .ok (.getfield 31, 3)) ∧ (decode cX11_flow 29 = .ok (.iload_n 3, 1))) ∧ ((decode cX11_flow 30 = .ok (.invokevirtual 126, 3)) ∧ (decode cX11_flow 33 = .ok (.ifCond .eq 6, 3)))) ∧ (((decode cX11_flow 36 = .ok (.ldc 172, 2)) ∧ (decode cX11_flow 38 = .ok (.ireturn, 1))) ∧ ((decode cX11_flow 39 = .ok (.aload_n 0, 1)) ∧ (decode cX11_flow 40 = .ok (.iload_n 1, 1))))) := by first | decide +kernel | ((repeat' apply And.intro) <;> decide +kernel)
theorem dX11_flow_8 : decode cX11_flow 8 = .ok (.invokevirtual 135, 3) := dB_36_2_54.1.1.1.1
theorem dX11_flow_11 : decode cX11_flow 11 = .ok (.ifCond .eq 25, 3) := dB_36_2_54.1.1.1.2
theorem dX11_flow_14 : decode cX11_flow 14 = .ok (.aload_n 0, 1) := dB_36_2_54.1.1.2.1
theorem dX11_flow_15 : decode cX11_flow 15 = .ok (.getfield 31, 3) := dB_36_2_54.1.1.2.2
theorem dX11_flow_18 : decode cX11_flow 18 = .ok (.iload_n 3, 1) := dB_36_2_54.1.2.1.1
theorem dX11_flow_19 : decode cX11_flow 19 = .ok (.invokevirtual 112, 3) := dB_36_2_54.1.2.1.2
theorem dX11_flow_22 : decode cX11_flow 22 = .ok (.ifCond .eq 14, 3) := dB_36_2_54.1.2.2.1
theorem dX11_flow_25 : decode cX11_flow 25 = .ok (.aload_n 0, 1) := dB_36_2_54.1.2.2.2
theorem dX11_flow_26 : decode cX11_flow 26 = .ok (.getfield 31, 3) := dB_36_2_54.2.1.1.1
theorem dX11_flow_29 : decode cX11_flow 29 = .ok (.iload_n 3, 1) := dB_36_2_54.2.1.1.2
theorem dX11_flow_30 : decode cX11_flow 30 = .ok (.invokevirtual 126, 3) := dB_36_2_54.2.1.2.1
theorem dX11_flow_33 : decode cX11_flow 33 = .ok (.ifCond .eq 6, 3) := dB_36_2_54.2.1.2.2
theorem dX11_flow_36 : decode cX11_flow 36 = .ok (.ldc 172, 2) := dB_36_2_54.2.2.1.1
theorem dX11_flow_38 : decode cX11_flow 38 = .ok (.ireturn, 1) := dB_36_2_54.2.2.1.2
theorem dX11_flow_39 : decode cX11_flow 39 = .ok (.aload_n 0, 1) := dB_36_2_54.2.2.2.1
theorem dX11_flow_40 : decode cX11_flow 40 = .ok (.iload_n 1, 1) := dB_36_2_54.2.2.2.2
theorem dB_36_2_55 : ((((decode cX11_flow 41 = .ok (.iload_n 2, 1)) ∧ (decode cX11_flow 42 = .ok (.invokevirtual 169, 3))) ∧ ((decode cX11_flow 45 = .ok (.bipush (-5), 2)) ∧ (decode cX11_flow 47 = .ok (.if_icmp .ne 8, 3)))) ∧ (((decode cX11_flow 50 = .ok (.ldc 172, 2)) ∧ (decode cX11_flow 52 = .ok (.goto 12, 3))) ∧ ((decode cX11_flow 55 = .ok (.aload_n 0, 1)) ∧ (decode cX11_flow 56 = .ok (.getfield 40, 3))))) ∧ ((((decode cX11_flow 59 = .ok (.getfield 173, 3)) ∧ (decode cX11_flow 62 = .ok (.iload_n 3, 1))) ∧ ((decode cX11_flow 63 = .ok (.iaload, 1)) ∧ (decode cX11_flow 64 = .ok (.ireturn, 1)))) ∧ (((decode cX11_cut 0 = .ok (.aload_n 0, 1)) ∧ (decode cX11_cut 1 = .ok (.getfield 31, 3))) ∧ ((decode cX11_cut 4 = .ok (.iload_n 1, 1)) ∧ (decode cX11_cut 5 = .ok (.i2l, 1))))) := by first | decide +kernel | ((repeat' apply And.intro) <;> decide +kernel)
theorem dX11_flow_41 : decode cX11_flow 41 = .ok (.iload_n 2, 1) := dB_36_2_55.1.1.1.1
theorem dX11_flow_42 : decode cX11_flow 42 = .ok (.invokevirtual 169, 3) := dB_36_2_55.1.1.1.2
theorem dX11_flow_45 : decode cX11_flow 45 = .ok (.bipush (-5), 2) := dB_36_2_55.1.1.2.1
theorem dX11_flow_47 : decode cX11_flow 47 = .ok (.if_icmp .ne 8, 3) := dB_36_2_55.1.1.2.2
theorem dX11_flow_50 : decode cX11_flow 50 = .ok (.ldc 172, 2) := dB_36_2_55.1.2.1.1
theorem dX11_flow_52 : decode cX11_flow 52 = .ok (.goto 12, 3) := dB_36_2_55.1.2.1.2
theorem dX11_flow_55 : decode cX11_flow 55 = .ok (.aload_n 0, 1) := dB_36_2_55.1.2.2.1
theorem dX11_flow_56 : decode cX11_flow 56 = .ok (.getfield 40, 3) := dB_36_2_55.1.2.2.2
theorem dX11_flow_59 : decode cX11_flow 59 = .ok (.getfield 173, 3) := dB_36_2_55.2.1.1.1
theorem dX11_flow_62 : decode cX11_flow 62 = .ok (.iload_n 3, 1) := dB_36_2_55.2.1.1.2
theorem dX11_flow_63 : decode cX11_flow 63 = .ok (.iaload, 1) := dB_36_2_55.2.1.2.1
theorem dX11_flow_64 : decode cX11_flow 64 = .ok (.ireturn, 1) := dB_36_2_55.2.1.2.2
theorem dX11_cut_0 : decode cX11_cut 0 = .ok (.aload_n 0, 1) := dB_36_2_55.2.2.1.1
theorem dX11_cut_1 : decode cX11_cut 1 = .ok (.getfield 31, 3) := dB_36_2_55.2.2.1.2
theorem dX11_cut_4 : decode cX11_cut 4 = .ok (.iload_n 1, 1) := dB_36_2_55.2.2.2.1
theorem dX11_cut_5 : decode cX11_cut 5 = .ok (.i2l, 1) := dB_36_2_55.2.2.2.2
theorem dB_36_2_56 : ((decode cX11_cut 6 = .ok (.iload_n 2, 1)) ∧ (decode cX11_cut 7 = .ok (.i2l, 1))) ∧ ((decode cX11_cut 8 = .ok (.invokevirtual 135, 3)) ∧ (decode cX11_cut 11 = .ok (.ifCond .eq 12, 3))) := by first | decide +kernel | ((repeat' apply And.intro) <;> decide +kernel)
theorem dX11_cut_6 : decode cX11_cut 6 = .ok (.iload_n 2, 1) := dB_36_2_56.1.1
theorem dX11_cut_7 : decode cX11_cut 7 = .ok (.i2l, 1) := dB_36_2_56.1.2
theorem dX11_cut_8 : decode cX11_cut 8 = .ok (.invokevirtual 135, 3) := dB_36_2_56.2.1
theorem dX11_cut_11 : decode cX11_cut 11 = .ok (.ifCond .eq 12, 3) := dB_36_2_56.2.2
