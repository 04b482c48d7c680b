theorem dB_3_2_0 : ((((decode cX12_step 35 = .ok (.iconst 1, 1)) ∧ (decode cX12_step 36 = .ok (.goto 4, 3))) ∧ ((decode cX12_step 39 = .ok (.iconst 0, 1)) ∧ (decode cX12_step 40 = .ok (.invokevirtual 160, 3)))) ∧ (((decode cX12_step 43 = .ok (.istore 5, 2)) ∧ (decode cX12_step 45 = .ok (.aload_n 0, 1))) ∧ ((decode cX12_step 46 = .ok (.iload_n 1, 1)) ∧ (decode cX12_step 47 = .ok (.invokevirtual 135, 3))))) ∧ ((((decode cX12_step 50 = .ok (.istore 6, 2)) ∧ (decode cX12_step 52 = .ok (.iload_n 3, 1))) ∧ ((decode cX12_step 53 = .ok (.ifCond .ge 15, 3)) ∧ (decode cX12_step 56 = .ok (.iload_n 3, 1)))) ∧ (((decode cX12_step 57 = .ok (.ineg, 1)) ∧ (decode cX12_step 58 = .ok (.iload 5, 2))) ∧ ((decode cX12_step 60 = .ok (.if_icmp .le 8, 3)) ∧ (decode cX12_step 63 = .ok (.iload 6, 2))))) := by first | decide +kernel | ((repeat' apply And.intro) <;> decide +kernel)
theorem dX12_step_35 : decode cX12_step 35 = .ok (.iconst 1, 1) := dB_3_2_0.1.1.1.1
theorem dX12_step_36 : decode cX12_step 36 = .ok (.goto 4, 3) := dB_3_2_0.1.1.1.2
theorem dX12_step_39 : decode cX12_step 39 = .ok (.iconst 0, 1) := dB_3_2_0.1.1.2.1
theorem dX12_step_40 : decode cX12_step 40 = .ok (.invokevirtual 160, 3) := dB_3_2_0.1.1.2.2
theorem dX12_step_43 : decode cX12_step 43 = .ok (.istore 5, 2) := dB_3_2_0.1.2.1.1
theorem dX12_step_45 : decode cX12_step 45 = .ok (.aload_n 0, 1) := dB_3_2_0.1.2.1.2
theorem dX12_step_46 : decode cX12_step 46 = .ok (.iload_n 1, 1) := dB_3_2_0.1.2.2.1
theorem dX12_step_47 : decode cX12_step 47 = .ok (.invokevirtual 135, 3) := dB_3_2_0.1.2.2.2
theorem dX12_step_50 : decode cX12_step 50 = .ok (.istore 6, 2) := dB_3_2_0.2.1.1.1
theorem dX12_step_52 : decode cX12_step 52 = .ok (.iload_n 3, 1) := dB_3_2_0.2.1.1.2
theorem dX12_step_53 : decode cX12_step 53 = .ok (.ifCond .ge 15, 3) := dB_3_2_0.2.1.2.1
theorem dX12_step_56 : decode cX12_step 56 = .ok (.iload_n 3, 1) := dB_3_2_0.2.1.2.2
theorem dX12_step_57 : decode cX12_step 57 = .ok (.ineg, 1) := dB_3_2_0.2.2.1.1
theorem dX12_step_58 : decode cX12_step 58 = .ok (.iload 5, 2) := dB_3_2_0.2.2.1.2
theorem dX12_step_60 : decode cX12_step 60 = .ok (.if_icmp .le 8, 3) := dB_3_2_0.2.2.2.1
theorem dX12_step_63 : decode cX12_step 63 = .ok (.iload 6, 2) := dB_3_2_0.2.2.2.2
theorem dB_3_2_1 : ((((decode cX12_step 65 = .ok (.ineg, 1)) ∧ (decode cX12_step 66 = .ok (.i2l, 1))) ∧ ((decode cX12_step 67 = .ok (.lreturn, 1)) ∧ (decode cX12_step 68 = .ok (.iload_n 3, 1)))) ∧ (((decode cX12_step 69 = .ok (.iload 4, 2)) ∧ (decode cX12_step 71 = .ok (.if_icmp .ge 7, 3))) ∧ ((decode cX12_step 74 = .ok (.lconst 0, 1)) ∧ (decode cX12_step 75 = .ok (.goto 19, 3))))) ∧ ((((decode cX12_step 78 = .ok (.iload 6, 2)) ∧ (decode cX12_step 80 = .ok (.bipush (-9), 2))) ∧ ((decode cX12_step 82 = .ok (.if_icmp .ne 9, 3)) ∧ (decode cX12_step 85 = .ok (.ldc2_w 118, 3)))) ∧ (((decode cX12_step 88 = .ok (.goto 6, 3)) ∧ (decode cX12_step 91 = .ok (.iload 6, 2))) ∧ ((decode cX12_step 93 = .ok (.i2l, 1)) ∧ (decode cX12_step 94 = .ok (.lreturn, 1))))) := by first | decide +kernel | ((repeat' apply And.intro) <;> decide +kernel)
theorem dX12_step_65 : decode cX12_step 65 = .ok (.ineg, 1) := dB_3_2_1.1.1.1.1
theorem dX12_step_66 : decode cX12_step 66 = .ok (.i2l, 1) := dB_3_2_1.1.1.1.2
theorem dX12_step_67 : decode cX12_step 67 = .ok (.lreturn, 1) := dB_3_2_1.1.1.2.1
theorem dX12_step_68 : decode cX12_step 68 = .ok (.iload_n 3, 1) := dB_3_2_1.1.1.2.2
theorem dX12_step_69 : decode cX12_step 69 = .ok (.iload 4, 2) := dB_3_2_1.1.2.1.1
theorem dX12_step_71 : decode cX12_step 71 = .ok (.if_icmp .ge 7, 3) := dB_3_2_1.1.2.1.2
theorem dX12_step_74 : decode cX12_step 74 = .ok (.lconst 0, 1) := dB_3_2_1.1.2.2.1
theorem dX12_step_75 : decode cX12_step 75 = .ok (.goto 19, 3) := dB_3_2_1.1.2.2.2
theorem dX12_step_78 : decode cX12_step 78 = .ok (.iload 6, 2) := dB_3_2_1.2.1.1.1
theorem dX12_step_80 : decode cX12_step 80 = .ok (.bipush (-9), 2) := dB_3_2_1.2.1.1.2
theorem dX12_step_82 : decode cX12_step 82 = .ok (.if_icmp .ne 9, 3) := dB_3_2_1.2.1.2.1
theorem dX12_step_85 : decode cX12_step 85 = .ok (.ldc2_w 118, 3) := dB_3_2_1.2.1.2.2
theorem dX12_step_88 : decode cX12_step 88 = .ok (.goto 6, 3) := dB_3_2_1.2.2.1.1
theorem dX12_step_91 : decode cX12_step 91 = .ok (.iload 6, 2) := dB_3_2_1.2.2.1.2
theorem dX12_step_93 : decode cX12_step 93 = .ok (.i2l, 1) := dB_3_2_1.2.2.2.1
theorem dX12_step_94 : decode cX12_step 94 = .ok (.lreturn, 1) := dB_3_2_1.2.2.2.2
theorem dB_3_2_2 : ((((decode cX12_amount 0 = .ok (.iload_n 2, 1)) ∧ (decode cX12_amount 1 = .ok (.ifCond .eq 12, 3))) ∧ ((decode cX12_amount 4 = .ok (.aload_n 0, 1)) ∧ (decode cX12_amount 5 = .ok (.getfield 61, 3)))) ∧ (((decode cX12_amount 8 = .ok (.iload_n 1, 1)) ∧ (decode cX12_amount 9 = .ok (.iaload, 1))) ∧ ((decode cX12_amount 10 = .ok (.goto 10, 3)) ∧ (decode cX12_amount 13 = .ok (.aload_n 0, 1))))) ∧ ((((decode cX12_amount 14 = .ok (.getfield 61, 3)) ∧ (decode cX12_amount 17 = .ok (.iload_n 1, 1))) ∧ ((decode cX12_amount 18 = .ok (.iaload, 1)) ∧ (decode cX12_amount 19 = .ok (.ineg, 1)))) ∧ (((decode cX12_amount 20 = .ok (.istore_n 3, 1)) ∧ (decode cX12_amount 21 = .ok (.aload_n 0, 1))) ∧ ((decode cX12_amount 22 = .ok (.iload_n 1, 1)) ∧ (decode cX12_amount 23 = .ok (.iload_n 2, 1))))) := by first | decide +kernel | ((repeat' apply And.intro) <;> decide +kernel)
theorem dX12_amount_0 : decode cX12_amount 0 = .ok (.iload_n 2, 1) := dB_3_2_2.1.1.1.1
theorem dX12_amount_1 : decode cX12_amount 1 = .ok (.ifCond .eq 12, 3) := dB_3_2_2.1.1.1.2
theorem dX12_amount_4 : decode cX12_amount 4 = .ok (.aload_n 0, 1) := dB_3_2_2.1.1.2.1
theorem dX12_amount_5 : decode cX12_amount 5 = .ok (.getfield 61, 3) := dB_3_2_2.1.1.2.2
theorem dX12_amount_8 : decode cX12_amount 8 = .ok (.iload_n 1, 1) := dB_3_2_2.1.2.1.1
theorem dX12_amount_9 : decode cX12_amount 9 = .ok (.iaload, 1) := dB_3_2_2.1.2.1.2
theorem dX12_amount_10 : decode cX12_amount 10 = .ok (.goto 10, 3) := dB_3_2_2.1.2.2.1
theorem dX12_amount_13 : decode cX12_amount 13 = .ok (.aload_n 0, 1) := dB_3_2_2.1.2.2.2
theorem dX12_amount_14 : decode cX12_amount 14 = .ok (.getfield 61, 3) := dB_3_2_2.2.1.1.1
theorem dX12_amount_17 : decode cX12_amount 17 = .ok (.iload_n 1, 1) := dB_3_2_2.2.1.1.2
theorem dX12_amount_18 : decode cX12_amount 18 = .ok (.iaload, 1) := dB_3_2_2.2.1.2.1
theorem dX12_amount_19 : decode cX12_amount 19 = .ok (.ineg, 1) := dB_3_2_2.2.1.2.2
theorem dX12_amount_20 : decode cX12_amount 20 = .ok (.istore_n 3, 1) := dB_3_2_2.2.2.1.1
theorem dX12_amount_21 : decode cX12_amount 21 = .ok (.aload_n 0, 1) := dB_3_2_2.2.2.1.2
theorem dX12_amount_22 : decode cX12_amount 22 = .ok (.iload_n 1, 1) := dB_3_2_2.2.2.2.1
theorem dX12_amount_23 : decode cX12_amount 23 = .ok (.iload_n 2, 1) := dB_3_2_2.2.2.2.2
theorem dB_3_2_3 : ((((decode cX12_amount 24 = .ok (.invokevirtual 160, 3)) ∧ (decode cX12_amount 27 = .ok (.istore 4, 2))) ∧ ((decode cX12_amount 29 = .ok (.aload_n 0, 1)) ∧ (decode cX12_amount 30 = .ok (.iload_n 1, 1)))) ∧ (((decode cX12_amount 31 = .ok (.iload_n 2, 1)) ∧ (decode cX12_amount 32 = .ok (.ifCond .ne 7, 3))) ∧ ((decode cX12_amount 35 = .ok (.iconst 1, 1)) ∧ (decode cX12_amount 36 = .ok (.goto 4, 3))))) ∧ ((((decode cX12_amount 39 = .ok (.iconst 0, 1)) ∧ (decode cX12_amount 40 = .ok (.invokevirtual 160, 3))) ∧ ((decode cX12_amount 43 = .ok (.istore 5, 2)) ∧ (decode cX12_amount 45 = .ok (.iload_n 3, 1)))) ∧ (((decode cX12_amount 46 = .ok (.ifCond .ge 18, 3)) ∧ (decode cX12_amount 49 = .ok (.iload_n 3, 1))) ∧ ((decode cX12_amount 50 = .ok (.ineg, 1)) ∧ (decode cX12_amount 51 = .ok (.iload 5, 2))))) := by first | decide +kernel | ((repeat' apply And.intro) <;> decide +kernel)
theorem dX12_amount_24 : decode cX12_amount 24 = .ok (.invokevirtual 160, 3) := dB_3_2_3.1.1.1.1
theorem dX12_amount_27 : decode cX12_amount 27 = .ok (.istore 4, 2) := dB_3_2_3.1.1.1.2
theorem dX12_amount_29 : decode cX12_amount 29 = .ok (.aload_n 0, 1) := dB_3_2_3.1.1.2.1
theorem dX12_amount_30 : decode cX12_amount 30 = .ok (.iload_n 1, 1) := dB_3_2_3.1.1.2.2
theorem dX12_amount_31 : decode cX12_amount 31 = .ok (.iload_n 2, 1) := dB_3_2_3.1.2.1.1
theorem dX12_amount_32 : decode cX12_amount 32 = .ok (.ifCond .ne 7, 3) := dB_3_2_3.1.2.1.2
theorem dX12_amount_35 : decode cX12_amount 35 = .ok (.iconst 1, 1) := dB_3_2_3.1.2.2.1
theorem dX12_amount_36 : decode cX12_amount 36 = .ok (.goto 4, 3) := dB_3_2_3.1.2.2.2
theorem dX12_amount_39 : decode cX12_amount 39 = .ok (.iconst 0, 1) := dB_3_2_3.2.1.1.1
theorem dX12_amount_40 : decode cX12_amount 40 = .ok (.invokevirtual 160, 3) := dB_3_2_3.2.1.1.2
theorem dX12_amount_43 : decode cX12_amount 43 = .ok (.istore 5, 2) := dB_3_2_3.2.1.2.1
theorem dX12_amount_45 : decode cX12_amount 45 = .ok (.iload_n 3, 1) := dB_3_2_3.2.1.2.2
theorem dX12_amount_46 : decode cX12_amount 46 = .ok (.ifCond .ge 18, 3) := dB_3_2_3.2.2.1.1
theorem dX12_amount_49 : decode cX12_amount 49 = .ok (.iload_n 3, 1) := dB_3_2_3.2.2.1.2
theorem dX12_amount_50 : decode cX12_amount 50 = .ok (.ineg, 1) := dB_3_2_3.2.2.2.1
theorem dX12_amount_51 : decode cX12_amount 51 = .ok (.iload 5, 2) := dB_3_2_3.2.2.2.2
theorem dB_3_2_4 : ((((decode cX12_amount 53 = .ok (.if_icmp .le 11, 3)) ∧ (decode cX12_amount 56 = .ok (.iload_n 3, 1))) ∧ ((decode cX12_amount 57 = .ok (.ineg, 1)) ∧ (decode cX12_amount 58 = .ok (.iload 5, 2)))) ∧ (((decode cX12_amount 60 = .ok (.isub, 1)) ∧ (decode cX12_amount 61 = .ok (.goto 18, 3))) ∧ ((decode cX12_amount 64 = .ok (.iload_n 3, 1)) ∧ (decode cX12_amount 65 = .ok (.iload 4, 2))))) ∧ ((((decode cX12_amount 67 = .ok (.if_icmp .ge 10, 3)) ∧ (decode cX12_amount 70 = .ok (.iload 4, 2))) ∧ ((decode cX12_amount 72 = .ok (.iload_n 3, 1)) ∧ (decode cX12_amount 73 = .ok (.isub, 1)))) ∧ (((decode cX12_amount 74 = .ok (.goto 5, 3)) ∧ (decode cX12_amount 77 = .ok (.ldc 159, 2))) ∧ ((decode cX12_amount 79 = .ok (.ireturn, 1)) ∧ (decode cX12_cheapWay 0 = .ok (.iconst 0, 1))))) := by first | decide +kernel | ((repeat' apply And.intro) <;> decide +kernel)
theorem dX12_amount_53 : decode cX12_amount 53 = .ok (.if_icmp .le 11, 3) := dB_3_2_4.1.1.1.1
theorem dX12_amount_56 : decode cX12_amount 56 = .ok (.iload_n 3, 1) := dB_3_2_4.1.1.1.2
theorem dX12_amount_57 : decode cX12_amount 57 = .ok (.ineg, 1) := dB_3_2_4.1.1.2.1
theorem dX12_amount_58 : decode cX12_amount 58 = .ok (.iload 5, 2) := dB_3_2_4.1.1.2.2
theorem dX12_amount_60 : decode cX12_amount 60 = .ok (.isub, 1) := dB_3_2_4.1.2.1.1
theorem dX12_amount_61 : decode cX12_amount 61 = .ok (.goto 18, 3) := dB_3_2_4.1.2.1.2
theorem dX12_amount_64 : decode cX12_amount 64 = .ok (.iload_n 3, 1) := dB_3_2_4.1.2.2.1
theorem dX12_amount_65 : decode cX12_amount 65 = .ok (.iload 4, 2) := dB_3_2_4.1.2.2.2
theorem dX12_amount_67 : decode cX12_amount 67 = .ok (.if_icmp .ge 10, 3) := dB_3_2_4.2.1.1.1
theorem dX12_amount_70 : decode cX12_amount 70 = .ok (.iload 4, 2) := dB_3_2_4.2.1.1.2
theorem dX12_amount_72 : decode cX12_amount 72 = .ok (.iload_n 3, 1) := dB_3_2_4.2.1.2.1
theorem dX12_amount_73 : decode cX12_amount 73 = .ok (.isub, 1) := dB_3_2_4.2.1.2.2
theorem dX12_amount_74 : decode cX12_amount 74 = .ok (.goto 5, 3) := dB_3_2_4.2.2.1.1
theorem dX12_amount_77 : decode cX12_amount 77 = .ok (.ldc 159, 2) := dB_3_2_4.2.2.1.2
theorem dX12_amount_79 : decode cX12_amount 79 = .ok (.ireturn, 1) := dB_3_2_4.2.2.2.1
theorem dX12_cheapWay_0 : decode cX12_cheapWay 0 = .ok (.iconst 0, 1) := dB_3_2_4.2.2.2.2
theorem dB_3_2_5 : ((((decode cX12_cheapWay 1 = .ok (.istore_n 3, 1)) ∧ (decode cX12_cheapWay 2 = .ok (.iload_n 3, 1))) ∧ ((decode cX12_cheapWay 3 = .ok (.aload_n 0, 1)) ∧ (decode cX12_cheapWay 4 = .ok (.getfield 88, 3)))) ∧ (((decode cX12_cheapWay 7 = .ok (.if_icmp .ge 27, 3)) ∧ (decode cX12_cheapWay 10 = .ok (.aload_n 0, 1))) ∧ ((decode cX12_cheapWay 11 = .ok (.getfield 70, 3)) ∧ (decode cX12_cheapWay 14 = .ok (.iload_n 3, 1))))) ∧ ((((decode cX12_cheapWay 15 = .ok (.iload_n 3, 1)) ∧ (decode cX12_cheapWay 16 = .ok (.iload_n 1, 1))) ∧ ((decode cX12_cheapWay 17 = .ok (.if_icmp .ne 7, 3)) ∧ (decode cX12_cheapWay 20 = .ok (.lconst 0, 1)))) ∧ (((decode cX12_cheapWay 21 = .ok (.goto 6, 3)) ∧ (decode cX12_cheapWay 24 = .ok (.ldc2_w 211, 3))) ∧ ((decode cX12_cheapWay 27 = .ok (.lastore, 1)) ∧ (decode cX12_cheapWay 28 = .ok (.iinc 3 1, 3))))) := by first | decide +kernel | ((repeat' apply And.intro) <;> decide +kernel)
theorem dX12_cheapWay_1 : decode cX12_cheapWay 1 = .ok (.istore_n 3, 1) := dB_3_2_5.1.1.1.1
theorem dX12_cheapWay_2 : decode cX12_cheapWay 2 = .ok (.iload_n 3, 1) := dB_3_2_5.1.1.1.2
theorem dX12_cheapWay_3 : decode cX12_cheapWay 3 = .ok (.aload_n 0, 1) := dB_3_2_5.1.1.2.1
theorem dX12_cheapWay_4 : decode cX12_cheapWay 4 = .ok (.getfield 88, 3) := dB_3_2_5.1.1.2.2
theorem dX12_cheapWay_7 : decode cX12_cheapWay 7 = .ok (.if_icmp .ge 27, 3) := dB_3_2_5.1.2.1.1
theorem dX12_cheapWay_10 : decode cX12_cheapWay 10 = .ok (.aload_n 0, 1) := dB_3_2_5.1.2.1.2
theorem dX12_cheapWay_11 : decode cX12_cheapWay 11 = .ok (.getfield 70, 3) := dB_3_2_5.1.2.2.1
theorem dX12_cheapWay_14 : decode cX12_cheapWay 14 = .ok (.iload_n 3, 1) := dB_3_2_5.1.2.2.2
theorem dX12_cheapWay_15 : decode cX12_cheapWay 15 = .ok (.iload_n 3, 1) := dB_3_2_5.2.1.1.1
theorem dX12_cheapWay_16 : decode cX12_cheapWay 16 = .ok (.iload_n 1, 1) := dB_3_2_5.2.1.1.2
theorem dX12_cheapWay_17 : decode cX12_cheapWay 17 = .ok (.if_icmp .ne 7, 3) := dB_3_2_5.2.1.2.1
theorem dX12_cheapWay_20 : decode cX12_cheapWay 20 = .ok (.lconst 0, 1) := dB_3_2_5.2.1.2.2
theorem dX12_cheapWay_21 : decode cX12_cheapWay 21 = .ok (.goto 6, 3) := dB_3_2_5.2.2.1.1
theorem dX12_cheapWay_24 : decode cX12_cheapWay 24 = .ok (.ldc2_w 211, 3) := dB_3_2_5.2.2.1.2
theorem dX12_cheapWay_27 : decode cX12_cheapWay 27 = .ok (.lastore, 1) := dB_3_2_5.2.2.2.1
theorem dX12_cheapWay_28 : decode cX12_cheapWay 28 = .ok (.iinc 3 1, 3) := dB_3_2_5.2.2.2.2
theorem dB_3_2_6 : ((((decode cX12_cheapWay 31 = .ok (.goto (-29), 3)) ∧ (decode cX12_cheapWay 34 = .ok (.iconst 0, 1))) ∧ ((decode cX12_cheapWay 35 = .ok (.istore_n 3, 1)) ∧ (decode cX12_cheapWay 36 = .ok (.iload_n 3, 1)))) ∧ (((decode cX12_cheapWay 37 = .ok (.aload_n 0, 1)) ∧ (decode cX12_cheapWay 38 = .ok (.getfield 88, 3))) ∧ ((decode cX12_cheapWay 41 = .ok (.if_icmp .ge 197, 3)) ∧ (decode cX12_cheapWay 44 = .ok (.iconst 0, 1))))) ∧ ((((decode cX12_cheapWay 45 = .ok (.istore 4, 2)) ∧ (decode cX12_cheapWay 47 = .ok (.iload 4, 2))) ∧ ((decode cX12_cheapWay 49 = .ok (.aload_n 0, 1)) ∧ (decode cX12_cheapWay 50 = .ok (.getfield 95, 3)))) ∧ (((decode cX12_cheapWay 53 = .ok (.if_icmp .ge 179, 3)) ∧ (decode cX12_cheapWay 56 = .ok (.iconst 0, 1))) ∧ ((decode cX12_cheapWay 57 = .ok (.istore 5, 2)) ∧ (decode cX12_cheapWay 59 = .ok (.iload 5, 2))))) := by first | decide +kernel | ((repeat' apply And.intro) <;> decide +kernel)
theorem dX12_cheapWay_31 : decode cX12_cheapWay 31 = .ok (.goto (-29), 3) := dB_3_2_6.1.1.1.1
theorem dX12_cheapWay_34 : decode cX12_cheapWay 34 = .ok (.iconst 0, 1) := dB_3_2_6.1.1.1.2
theorem dX12_cheapWay_35 : decode cX12_cheapWay 35 = .ok (.istore_n 3, 1) := dB_3_2_6.1.1.2.1
theorem dX12_cheapWay_36 : decode cX12_cheapWay 36 = .ok (.iload_n 3, 1) := dB_3_2_6.1.1.2.2
theorem dX12_cheapWay_37 : decode cX12_cheapWay 37 = .ok (.aload_n 0, 1) := dB_3_2_6.1.2.1.1
theorem dX12_cheapWay_38 : decode cX12_cheapWay 38 = .ok (.getfield 88, 3) := dB_3_2_6.1.2.1.2
theorem dX12_cheapWay_41 : decode cX12_cheapWay 41 = .ok (.if_icmp .ge 197, 3) := dB_3_2_6.1.2.2.1
theorem dX12_cheapWay_44 : decode cX12_cheapWay 44 = .ok (.iconst 0, 1) := dB_3_2_6.1.2.2.2
theorem dX12_cheapWay_45 : decode cX12_cheapWay 45 = .ok (.istore 4, 2) := dB_3_2_6.2.1.1.1
theorem dX12_cheapWay_47 : decode cX12_cheapWay 47 = .ok (.iload 4, 2) := dB_3_2_6.2.1.1.2
theorem dX12_cheapWay_49 : decode cX12_cheapWay 49 = .ok (.aload_n 0, 1) := dB_3_2_6.2.1.2.1
theorem dX12_cheapWay_50 : decode cX12_cheapWay 50 = .ok (.getfield 95, 3) := dB_3_2_6.2.1.2.2
theorem dX12_cheapWay_53 : decode cX12_cheapWay 53 = .ok (.if_icmp .ge 179, 3) := dB_3_2_6.2.2.1.1
theorem dX12_cheapWay_56 : decode cX12_cheapWay 56 = .ok (.iconst 0, 1) := dB_3_2_6.2.2.1.2
theorem dX12_cheapWay_57 : decode cX12_cheapWay 57 = .ok (.istore 5, 2) := dB_3_2_6.2.2.2.1
theorem dX12_cheapWay_59 : decode cX12_cheapWay 59 = .ok (.iload 5, 2) := dB_3_2_6.2.2.2.2
theorem dB_3_2_7 : ((((decode cX12_cheapWay 61 = .ok (.iconst 2, 1)) ∧ (decode cX12_cheapWay 62 = .ok (.if_icmp .ge 164, 3))) ∧ ((decode cX12_cheapWay 65 = .ok (.aload_n 0, 1)) ∧ (decode cX12_cheapWay 66 = .ok (.getfield 25, 3)))) ∧ (((decode cX12_cheapWay 69 = .ok (.iload 4, 2)) ∧ (decode cX12_cheapWay 71 = .ok (.baload, 1))) ∧ ((decode cX12_cheapWay 72 = .ok (.ifCond .ne 154, 3)) ∧ (decode cX12_cheapWay 75 = .ok (.iload 5, 2))))) ∧ ((((decode cX12_cheapWay 77 = .ok (.ifCond .ne 13, 3)) ∧ (decode cX12_cheapWay 80 = .ok (.aload_n 0, 1))) ∧ ((decode cX12_cheapWay 81 = .ok (.getfield 13, 3)) ∧ (decode cX12_cheapWay 84 = .ok (.iload 4, 2)))) ∧ (((decode cX12_cheapWay 86 = .ok (.iaload, 1)) ∧ (decode cX12_cheapWay 87 = .ok (.goto 10, 3))) ∧ ((decode cX12_cheapWay 90 = .ok (.aload_n 0, 1)) ∧ (decode cX12_cheapWay 91 = .ok (.getfield 16, 3))))) := by first | decide +kernel | ((repeat' apply And.intro) <;> decide +kernel)
theorem dX12_cheapWay_61 : decode cX12_cheapWay 61 = .ok (.iconst 2, 1) := dB_3_2_7.1.1.1.1
theorem dX12_cheapWay_62 : decode cX12_cheapWay 62 = .ok (.if_icmp .ge 164, 3) := dB_3_2_7.1.1.1.2
theorem dX12_cheapWay_65 : decode cX12_cheapWay 65 = .ok (.aload_n 0, 1) := dB_3_2_7.1.1.2.1
theorem dX12_cheapWay_66 : decode cX12_cheapWay 66 = .ok (.getfield 25, 3) := dB_3_2_7.1.1.2.2
theorem dX12_cheapWay_69 : decode cX12_cheapWay 69 = .ok (.iload 4, 2) := dB_3_2_7.1.2.1.1
theorem dX12_cheapWay_71 : decode cX12_cheapWay 71 = .ok (.baload, 1) := dB_3_2_7.1.2.1.2
theorem dX12_cheapWay_72 : decode cX12_cheapWay 72 = .ok (.ifCond .ne 154, 3) := dB_3_2_7.1.2.2.1
theorem dX12_cheapWay_75 : decode cX12_cheapWay 75 = .ok (.iload 5, 2) := dB_3_2_7.1.2.2.2
theorem dX12_cheapWay_77 : decode cX12_cheapWay 77 = .ok (.ifCond .ne 13, 3) := dB_3_2_7.2.1.1.1
theorem dX12_cheapWay_80 : decode cX12_cheapWay 80 = .ok (.aload_n 0, 1) := dB_3_2_7.2.1.1.2
theorem dX12_cheapWay_81 : decode cX12_cheapWay 81 = .ok (.getfield 13, 3) := dB_3_2_7.2.1.2.1
theorem dX12_cheapWay_84 : decode cX12_cheapWay 84 = .ok (.iload 4, 2) := dB_3_2_7.2.1.2.2
theorem dX12_cheapWay_86 : decode cX12_cheapWay 86 = .ok (.iaload, 1) := dB_3_2_7.2.2.1.1
theorem dX12_cheapWay_87 : decode cX12_cheapWay 87 = .ok (.goto 10, 3) := dB_3_2_7.2.2.1.2
theorem dX12_cheapWay_90 : decode cX12_cheapWay 90 = .ok (.aload_n 0, 1) := dB_3_2_7.2.2.2.1
theorem dX12_cheapWay_91 : decode cX12_cheapWay 91 = .ok (.getfield 16, 3) := dB_3_2_7.2.2.2.2
theorem dB_3_2_8 : ((((decode cX12_cheapWay 94 = .ok (.iload 4, 2)) ∧ (decode cX12_cheapWay 96 = .ok (.iaload, 1))) ∧ ((decode cX12_cheapWay 97 = .ok (.istore 6, 2)) ∧ (decode cX12_cheapWay 99 = .ok (.iload 5, 2)))) ∧ (((decode cX12_cheapWay 101 = .ok (.ifCond .ne 13, 3)) ∧ (decode cX12_cheapWay 104 = .ok (.aload_n 0, 1))) ∧ ((decode cX12_cheapWay 105 = .ok (.getfield 16, 3)) ∧ (decode cX12_cheapWay 108 = .ok (.iload 4, 2))))) ∧ ((((decode cX12_cheapWay 110 = .ok (.iaload, 1)) ∧ (decode cX12_cheapWay 111 = .ok (.goto 10, 3))) ∧ ((decode cX12_cheapWay 114 = .ok (.aload_n 0, 1)) ∧ (decode cX12_cheapWay 115 = .ok (.getfield 13, 3)))) ∧ (((decode cX12_cheapWay 118 = .ok (.iload 4, 2)) ∧ (decode cX12_cheapWay 120 = .ok (.iaload, 1))) ∧ ((decode cX12_cheapWay 121 = .ok (.istore 7, 2)) ∧ (decode cX12_cheapWay 123 = .ok (.aload_n 0, 1))))) := by first | decide +kernel | ((repeat' apply And.intro) <;> decide +kernel)
theorem dX12_cheapWay_94 : decode cX12_cheapWay 94 = .ok (.iload 4, 2) := dB_3_2_8.1.1.1.1
theorem dX12_cheapWay_96 : decode cX12_cheapWay 96 = .ok (.iaload, 1) := dB_3_2_8.1.1.1.2
theorem dX12_cheapWay_97 : decode cX12_cheapWay 97 = .ok (.istore 6, 2) := dB_3_2_8.1.1.2.1
theorem dX12_cheapWay_99 : decode cX12_cheapWay 99 = .ok (.iload 5, 2) := dB_3_2_8.1.1.2.2
theorem dX12_cheapWay_101 : decode cX12_cheapWay 101 = .ok (.ifCond .ne 13, 3) := dB_3_2_8.1.2.1.1
theorem dX12_cheapWay_104 : decode cX12_cheapWay 104 = .ok (.aload_n 0, 1) := dB_3_2_8.1.2.1.2
theorem dX12_cheapWay_105 : decode cX12_cheapWay 105 = .ok (.getfield 16, 3) := dB_3_2_8.1.2.2.1
theorem dX12_cheapWay_108 : decode cX12_cheapWay 108 = .ok (.iload 4, 2) := dB_3_2_8.1.2.2.2
theorem dX12_cheapWay_110 : decode cX12_cheapWay 110 = .ok (.iaload, 1) := dB_3_2_8.2.1.1.1
theorem dX12_cheapWay_111 : decode cX12_cheapWay 111 = .ok (.goto 10, 3) := dB_3_2_8.2.1.1.2
theorem dX12_cheapWay_114 : decode cX12_cheapWay 114 = .ok (.aload_n 0, 1) := dB_3_2_8.2.1.2.1
theorem dX12_cheapWay_115 : decode cX12_cheapWay 115 = .ok (.getfield 13, 3) := dB_3_2_8.2.1.2.2
theorem dX12_cheapWay_118 : decode cX12_cheapWay 118 = .ok (.iload 4, 2) := dB_3_2_8.2.2.1.1
theorem dX12_cheapWay_120 : decode cX12_cheapWay 120 = .ok (.iaload, 1) := dB_3_2_8.2.2.1.2
theorem dX12_cheapWay_121 : decode cX12_cheapWay 121 = .ok (.istore 7, 2) := dB_3_2_8.2.2.2.1
theorem dX12_cheapWay_123 : decode cX12_cheapWay 123 = .ok (.aload_n 0, 1) := dB_3_2_8.2.2.2.2
theorem dB_3_2_9 : ((((decode cX12_cheapWay 124 = .ok (.iload 4, 2)) ∧ (decode cX12_cheapWay 126 = .ok (.iload 5, 2))) ∧ ((decode cX12_cheapWay 128 = .ok (.ifCond .ne 7, 3)) ∧ (decode cX12_cheapWay 131 = .ok (.iconst 1, 1)))) ∧ (((decode cX12_cheapWay 132 = .ok (.goto 4, 3)) ∧ (decode cX12_cheapWay 135 = .ok (.iconst 0, 1))) ∧ ((decode cX12_cheapWay 136 = .ok (.invokevirtual 213, 3)) ∧ (decode cX12_cheapWay 139 = .ok (.lstore 8, 2))))) ∧ ((((decode cX12_cheapWay 141 = .ok (.lload 8, 2)) ∧ (decode cX12_cheapWay 143 = .ok (.ldc2_w 118, 3))) ∧ ((decode cX12_cheapWay 146 = .ok (.lcmp, 1)) ∧ (decode cX12_cheapWay 147 = .ok (.ifCond .ge 73, 3)))) ∧ (((decode cX12_cheapWay 150 = .ok (.aload_n 0, 1)) ∧ (decode cX12_cheapWay 151 = .ok (.getfield 70, 3))) ∧ ((decode cX12_cheapWay 154 = .ok (.iload 6, 2)) ∧ (decode cX12_cheapWay 156 = .ok (.laload, 1))))) := by first | decide +kernel | ((repeat' apply And.intro) <;> decide +kernel)
theorem dX12_cheapWay_124 : decode cX12_cheapWay 124 = .ok (.iload 4, 2) := dB_3_2_9.1.1.1.1
theorem dX12_cheapWay_126 : decode cX12_cheapWay 126 = .ok (.iload 5, 2) := dB_3_2_9.1.1.1.2
theorem dX12_cheapWay_128 : decode cX12_cheapWay 128 = .ok (.ifCond .ne 7, 3) := dB_3_2_9.1.1.2.1
theorem dX12_cheapWay_131 : decode cX12_cheapWay 131 = .ok (.iconst 1, 1) := dB_3_2_9.1.1.2.2
theorem dX12_cheapWay_132 : decode cX12_cheapWay 132 = .ok (.goto 4, 3) := dB_3_2_9.1.2.1.1
theorem dX12_cheapWay_135 : decode cX12_cheapWay 135 = .ok (.iconst 0, 1) := dB_3_2_9.1.2.1.2
theorem dX12_cheapWay_136 : decode cX12_cheapWay 136 = .ok (.invokevirtual 213, 3) := dB_3_2_9.1.2.2.1
theorem dX12_cheapWay_139 : decode cX12_cheapWay 139 = .ok (.lstore 8, 2) := dB_3_2_9.1.2.2.2
theorem dX12_cheapWay_141 : decode cX12_cheapWay 141 = .ok (.lload 8, 2) := dB_3_2_9.2.1.1.1
theorem dX12_cheapWay_143 : decode cX12_cheapWay 143 = .ok (.ldc2_w 118, 3) := dB_3_2_9.2.1.1.2
theorem dX12_cheapWay_146 : decode cX12_cheapWay 146 = .ok (.lcmp, 1) := dB_3_2_9.2.1.2.1
theorem dX12_cheapWay_147 : decode cX12_cheapWay 147 = .ok (.ifCond .ge 73, 3) := dB_3_2_9.2.1.2.2
theorem dX12_cheapWay_150 : decode cX12_cheapWay 150 = .ok (.aload_n 0, 1) := dB_3_2_9.2.2.1.1
theorem dX12_cheapWay_151 : decode cX12_cheapWay 151 = .ok (.getfield 70, 3) := dB_3_2_9.2.2.1.2
theorem dX12_cheapWay_154 : decode cX12_cheapWay 154 = .ok (.iload 6, 2) := dB_3_2_9.2.2.2.1
theorem dX12_cheapWay_156 : decode cX12_cheapWay 156 = .ok (.laload, 1) := dB_3_2_9.2.2.2.2
theorem dB_3_2_10 : ((((decode cX12_cheapWay 157 = .ok (.ldc2_w 211, 3)) ∧ (decode cX12_cheapWay 160 = .ok (.lcmp, 1))) ∧ ((decode cX12_cheapWay 161 = .ok (.ifCond .ge 59, 3)) ∧ (decode cX12_cheapWay 164 = .ok (.aload_n 0, 1)))) ∧ (((decode cX12_cheapWay 165 = .ok (.getfield 70, 3)) ∧ (decode cX12_cheapWay 168 = .ok (.iload 6, 2))) ∧ ((decode cX12_cheapWay 170 = .ok (.laload, 1)) ∧ (decode cX12_cheapWay 171 = .ok (.lload 8, 2))))) ∧ ((((decode cX12_cheapWay 173 = .ok (.ladd, 1)) ∧ (decode cX12_cheapWay 174 = .ok (.aload_n 0, 1))) ∧ ((decode cX12_cheapWay 175 = .ok (.getfield 70, 3)) ∧ (decode cX12_cheapWay 178 = .ok (.iload 7, 2)))) ∧ (((decode cX12_cheapWay 180 = .ok (.laload, 1)) ∧ (decode cX12_cheapWay 181 = .ok (.lcmp, 1))) ∧ ((decode cX12_cheapWay 182 = .ok (.ifCond .ge 38, 3)) ∧ (decode cX12_cheapWay 185 = .ok (.aload_n 0, 1))))) := by first | decide +kernel | ((repeat' apply And.intro) <;> decide +kernel)
theorem dX12_cheapWay_157 : decode cX12_cheapWay 157 = .ok (.ldc2_w 211, 3) := dB_3_2_10.1.1.1.1
theorem dX12_cheapWay_160 : decode cX12_cheapWay 160 = .ok (.lcmp, 1) := dB_3_2_10.1.1.1.2
theorem dX12_cheapWay_161 : decode cX12_cheapWay 161 = .ok (.ifCond .ge 59, 3) := dB_3_2_10.1.1.2.1
theorem dX12_cheapWay_164 : decode cX12_cheapWay 164 = .ok (.aload_n 0, 1) := dB_3_2_10.1.1.2.2
theorem dX12_cheapWay_165 : decode cX12_cheapWay 165 = .ok (.getfield 70, 3) := dB_3_2_10.1.2.1.1
theorem dX12_cheapWay_168 : decode cX12_cheapWay 168 = .ok (.iload 6, 2) := dB_3_2_10.1.2.1.2
theorem dX12_cheapWay_170 : decode cX12_cheapWay 170 = .ok (.laload, 1) := dB_3_2_10.1.2.2.1
theorem dX12_cheapWay_171 : decode cX12_cheapWay 171 = .ok (.lload 8, 2) := dB_3_2_10.1.2.2.2
theorem dX12_cheapWay_173 : decode cX12_cheapWay 173 = .ok (.ladd, 1) := dB_3_2_10.2.1.1.1
theorem dX12_cheapWay_174 : decode cX12_cheapWay 174 = .ok (.aload_n 0, 1) := dB_3_2_10.2.1.1.2
theorem dX12_cheapWay_175 : decode cX12_cheapWay 175 = .ok (.getfield 70, 3) := dB_3_2_10.2.1.2.1
theorem dX12_cheapWay_178 : decode cX12_cheapWay 178 = .ok (.iload 7, 2) := dB_3_2_10.2.1.2.2
theorem dX12_cheapWay_180 : decode cX12_cheapWay 180 = .ok (.laload, 1) := dB_3_2_10.2.2.1.1
theorem dX12_cheapWay_181 : decode cX12_cheapWay 181 = .ok (.lcmp, 1) := dB_3_2_10.2.2.1.2
theorem dX12_cheapWay_182 : decode cX12_cheapWay 182 = .ok (.ifCond .ge 38, 3) := dB_3_2_10.2.2.2.1
theorem dX12_cheapWay_185 : decode cX12_cheapWay 185 = .ok (.aload_n 0, 1) := dB_3_2_10.2.2.2.2
theorem dB_3_2_11 : ((((decode cX12_cheapWay 186 = .ok (.getfield 70, 3)) ∧ (decode cX12_cheapWay 189 = .ok (.iload 7, 2))) ∧ ((decode cX12_cheapWay 191 = .ok (.aload_n 0, 1)) ∧ (decode cX12_cheapWay 192 = .ok (.getfield 70, 3)))) ∧ (((decode cX12_cheapWay 195 = .ok (.iload 6, 2)) ∧ (decode cX12_cheapWay 197 = .ok (.laload, 1))) ∧ ((decode cX12_cheapWay 198 = .ok (.lload 8, 2)) ∧ (decode cX12_cheapWay 200 = .ok (.ladd, 1))))) ∧ ((((decode cX12_cheapWay 201 = .ok (.lastore, 1)) ∧ (decode cX12_cheapWay 202 = .ok (.aload_n 0, 1))) ∧ ((decode cX12_cheapWay 203 = .ok (.getfield 73, 3)) ∧ (decode cX12_cheapWay 206 = .ok (.iload 7, 2)))) ∧ (((decode cX12_cheapWay 208 = .ok (.iload 4, 2)) ∧ (decode cX12_cheapWay 210 = .ok (.iastore, 1))) ∧ ((decode cX12_cheapWay 211 = .ok (.aload_n 0, 1)) ∧ (decode cX12_cheapWay 212 = .ok (.getfield 76, 3))))) := by first | decide +kernel | ((repeat' apply And.intro) <;> decide +kernel)
theorem dX12_cheapWay_186 : decode cX12_cheapWay 186 = .ok (.getfield 70, 3) := dB_3_2_11.1.1.1.1
theorem dX12_cheapWay_189 : decode cX12_cheapWay 189 = .ok (.iload 7, 2) := dB_3_2_11.1.1.1.2
theorem dX12_cheapWay_191 : decode cX12_cheapWay 191 = .ok (.aload_n 0, 1) := dB_3_2_11.1.1.2.1
theorem dX12_cheapWay_192 : decode cX12_cheapWay 192 = .ok (.getfield 70, 3) := dB_3_2_11.1.1.2.2
theorem dX12_cheapWay_195 : decode cX12_cheapWay 195 = .ok (.iload 6, 2) := dB_3_2_11.1.2.1.1
theorem dX12_cheapWay_197 : decode cX12_cheapWay 197 = .ok (.laload, 1) := dB_3_2_11.1.2.1.2
theorem dX12_cheapWay_198 : decode cX12_cheapWay 198 = .ok (.lload 8, 2) := dB_3_2_11.1.2.2.1
theorem dX12_cheapWay_200 : decode cX12_cheapWay 200 = .ok (.ladd, 1) := dB_3_2_11.1.2.2.2
theorem dX12_cheapWay_201 : decode cX12_cheapWay 201 = .ok (.lastore, 1) := dB_3_2_11.2.1.1.1
theorem dX12_cheapWay_202 : decode cX12_cheapWay 202 = .ok (.aload_n 0, 1) := dB_3_2_11.2.1.1.2
theorem dX12_cheapWay_203 : decode cX12_cheapWay 203 = .ok (.getfield 73, 3) := dB_3_2_11.2.1.2.1
theorem dX12_cheapWay_206 : decode cX12_cheapWay 206 = .ok (.iload 7, 2) := dB_3_2_11.2.1.2.2
theorem dX12_cheapWay_208 : decode cX12_cheapWay 208 = .ok (.iload 4, 2) := dB_3_2_11.2.2.1.1
theorem dX12_cheapWay_210 : decode cX12_cheapWay 210 = .ok (.iastore, 1) := dB_3_2_11.2.2.1.2
theorem dX12_cheapWay_211 : decode cX12_cheapWay 211 = .ok (.aload_n 0, 1) := dB_3_2_11.2.2.2.1
theorem dX12_cheapWay_212 : decode cX12_cheapWay 212 = .ok (.getfield 76, 3) := dB_3_2_11.2.2.2.2
theorem dB_3_2_12 : ((((decode cX12_cheapWay 215 = .ok (.iload 7, 2)) ∧ (decode cX12_cheapWay 217 = .ok (.iload 6, 2))) ∧ ((decode cX12_cheapWay 219 = .ok (.iastore, 1)) ∧ (decode cX12_cheapWay 220 = .ok (.iinc 5 1, 3)))) ∧ (((decode cX12_cheapWay 223 = .ok (.goto (-164), 3)) ∧ (decode cX12_cheapWay 226 = .ok (.iinc 4 1, 3))) ∧ ((decode cX12_cheapWay 229 = .ok (.goto (-182), 3)) ∧ (decode cX12_cheapWay 232 = .ok (.iinc 3 1, 3))))) ∧ ((((decode cX12_cheapWay 235 = .ok (.goto (-199), 3)) ∧ (decode cX12_cheapWay 238 = .ok (.aload_n 0, 1))) ∧ ((decode cX12_cheapWay 239 = .ok (.getfield 70, 3)) ∧ (decode cX12_cheapWay 242 = .ok (.iload_n 2, 1)))) ∧ (((decode cX12_cheapWay 243 = .ok (.laload, 1)) ∧ (decode cX12_cheapWay 244 = .ok (.ldc2_w 211, 3))) ∧ ((decode cX12_cheapWay 247 = .ok (.lcmp, 1)) ∧ (decode cX12_cheapWay 248 = .ok (.ifCond .ge 7, 3))))) := by first | decide +kernel | ((repeat' apply And.intro) <;> decide +kernel)
theorem dX12_cheapWay_215 : decode cX12_cheapWay 215 = .ok (.iload 7, 2) := dB_3_2_12.1.1.1.1
theorem dX12_cheapWay_217 : decode cX12_cheapWay 217 = .ok (.iload 6, 2) := dB_3_2_12.1.1.1.2
theorem dX12_cheapWay_219 : decode cX12_cheapWay 219 = .ok (.iastore, 1) := dB_3_2_12.1.1.2.1
theorem dX12_cheapWay_220 : decode cX12_cheapWay 220 = .ok (.iinc 5 1, 3) := dB_3_2_12.1.1.2.2
theorem dX12_cheapWay_223 : decode cX12_cheapWay 223 = .ok (.goto (-164), 3) := dB_3_2_12.1.2.1.1
theorem dX12_cheapWay_226 : decode cX12_cheapWay 226 = .ok (.iinc 4 1, 3) := dB_3_2_12.1.2.1.2
theorem dX12_cheapWay_229 : decode cX12_cheapWay 229 = .ok (.goto (-182), 3) := dB_3_2_12.1.2.2.1
theorem dX12_cheapWay_232 : decode cX12_cheapWay 232 = .ok (.iinc 3 1, 3) := dB_3_2_12.1.2.2.2
theorem dX12_cheapWay_235 : decode cX12_cheapWay 235 = .ok (.goto (-199), 3) := dB_3_2_12.2.1.1.1
theorem dX12_cheapWay_238 : decode cX12_cheapWay 238 = .ok (.aload_n 0, 1) := dB_3_2_12.2.1.1.2
theorem dX12_cheapWay_239 : decode cX12_cheapWay 239 = .ok (.getfield 70, 3) := dB_3_2_12.2.1.2.1
theorem dX12_cheapWay_242 : decode cX12_cheapWay 242 = .ok (.iload_n 2, 1) := dB_3_2_12.2.1.2.2
theorem dX12_cheapWay_243 : decode cX12_cheapWay 243 = .ok (.laload, 1) := dB_3_2_12.2.2.1.1
theorem dX12_cheapWay_244 : decode cX12_cheapWay 244 = .ok (.ldc2_w 211, 3) := dB_3_2_12.2.2.1.2
theorem dX12_cheapWay_247 : decode cX12_cheapWay 247 = .ok (.lcmp, 1) := dB_3_2_12.2.2.2.1
theorem dX12_cheapWay_248 : decode cX12_cheapWay 248 = .ok (.ifCond .ge 7, 3) := dB_3_2_12.2.2.2.2
theorem dB_3_2_13 : ((((decode cX12_cheapWay 251 = .ok (.iconst 1, 1)) ∧ (decode cX12_cheapWay 252 = .ok (.goto 4, 3))) ∧ ((decode cX12_cheapWay 255 = .ok (.iconst 0, 1)) ∧ (decode cX12_cheapWay 256 = .ok (.ireturn, 1)))) ∧ (((decode cX12_cheapest 0 = .ok (.aload_n 0, 1)) ∧ (decode cX12_cheapest 1 = .ok (.iconst 0, 1))) ∧ ((decode cX12_cheapest 2 = .ok (.putfield 85, 3)) ∧ (decode cX12_cheapest 5 = .ok (.aload_n 0, 1))))) ∧ ((((decode cX12_cheapest 6 = .ok (.iload_n 1, 1)) ∧ (decode cX12_cheapest 7 = .ok (.iload_n 2, 1))) ∧ ((decode cX12_cheapest 8 = .ok (.invokevirtual 143, 3)) ∧ (decode cX12_cheapest 11 = .ok (.ifCond .eq 15, 3)))) ∧ (((decode cX12_cheapest 14 = .ok (.iload_n 3, 1)) ∧ (decode cX12_cheapest 15 = .ok (.i2l, 1))) ∧ ((decode cX12_cheapest 16 = .ok (.lconst 0, 1)) ∧ (decode cX12_cheapest 17 = .ok (.ldc2_w 217, 3))))) := by first | decide +kernel | ((repeat' apply And.intro) <;> decide +kernel)
theorem dX12_cheapWay_251 : decode cX12_cheapWay 251 = .ok (.iconst 1, 1) := dB_3_2_13.1.1.1.1
theorem dX12_cheapWay_252 : decode cX12_cheapWay 252 = .ok (.goto 4, 3) := dB_3_2_13.1.1.1.2
theorem dX12_cheapWay_255 : decode cX12_cheapWay 255 = .ok (.iconst 0, 1) := dB_3_2_13.1.1.2.1
theorem dX12_cheapWay_256 : decode cX12_cheapWay 256 = .ok (.ireturn, 1) := dB_3_2_13.1.1.2.2
theorem dX12_cheapest_0 : decode cX12_cheapest 0 = .ok (.aload_n 0, 1) := dB_3_2_13.1.2.1.1
theorem dX12_cheapest_1 : decode cX12_cheapest 1 = .ok (.iconst 0, 1) := dB_3_2_13.1.2.1.2
theorem dX12_cheapest_2 : decode cX12_cheapest 2 = .ok (.putfield 85, 3) := dB_3_2_13.1.2.2.1
theorem dX12_cheapest_5 : decode cX12_cheapest 5 = .ok (.aload_n 0, 1) := dB_3_2_13.1.2.2.2
theorem dX12_cheapest_6 : decode cX12_cheapest 6 = .ok (.iload_n 1, 1) := dB_3_2_13.2.1.1.1
theorem dX12_cheapest_7 : decode cX12_cheapest 7 = .ok (.iload_n 2, 1) := dB_3_2_13.2.1.1.2
theorem dX12_cheapest_8 : decode cX12_cheapest 8 = .ok (.invokevirtual 143, 3) := dB_3_2_13.2.1.2.1
theorem dX12_cheapest_11 : decode cX12_cheapest 11 = .ok (.ifCond .eq 15, 3) := dB_3_2_13.2.1.2.2
theorem dX12_cheapest_14 : decode cX12_cheapest 14 = .ok (.iload_n 3, 1) := dB_3_2_13.2.2.1.1
theorem dX12_cheapest_15 : decode cX12_cheapest 15 = .ok (.i2l, 1) := dB_3_2_13.2.2.1.2
theorem dX12_cheapest_16 : decode cX12_cheapest 16 = .ok (.lconst 0, 1) := dB_3_2_13.2.2.2.1
theorem dX12_cheapest_17 : decode cX12_cheapest 17 = .ok (.ldc2_w 217, 3) := dB_3_2_13.2.2.2.2
theorem dB_3_2_14 : ((((decode cX12_cheapest 20 = .ok (.invokestatic 91, 3)) ∧ (decode cX12_cheapest 23 = .ok (.ifCond .ne 5, 3))) ∧ ((decode cX12_cheapest 26 = .ok (.iconst (-1), 1)) ∧ (decode cX12_cheapest 27 = .ok (.ireturn, 1)))) ∧ (((decode cX12_cheapest 28 = .ok (.aload_n 0, 1)) ∧ (decode cX12_cheapest 29 = .ok (.iload_n 1, 1))) ∧ ((decode cX12_cheapest 30 = .ok (.iload_n 2, 1)) ∧ (decode cX12_cheapest 31 = .ok (.invokevirtual 166, 3))))) ∧ ((((decode cX12_cheapest 34 = .ok (.iload_n 3, 1)) ∧ (decode cX12_cheapest 35 = .ok (.if_icmp .lt 5, 3))) ∧ ((decode cX12_cheapest 38 = .ok (.iconst 0, 1)) ∧ (decode cX12_cheapest 39 = .ok (.ireturn, 1)))) ∧ (((decode cX12_cheapest 40 = .ok (.iconst 0, 1)) ∧ (decode cX12_cheapest 41 = .ok (.istore 4, 2))) ∧ ((decode cX12_cheapest 43 = .ok (.iload 4, 2)) ∧ (decode cX12_cheapest 45 = .ok (.bipush 40, 2))))) := by first | decide +kernel | ((repeat' apply And.intro) <;> decide +kernel)
theorem dX12_cheapest_20 : decode cX12_cheapest 20 = .ok (.invokestatic 91, 3) := dB_3_2_14.1.1.1.1
theorem dX12_cheapest_23 : decode cX12_cheapest 23 = .ok (.ifCond .ne 5, 3) := dB_3_2_14.1.1.1.2
theorem dX12_cheapest_26 : decode cX12_cheapest 26 = .ok (.iconst (-1), 1) := dB_3_2_14.1.1.2.1
theorem dX12_cheapest_27 : decode cX12_cheapest 27 = .ok (.ireturn, 1) := dB_3_2_14.1.1.2.2
theorem dX12_cheapest_28 : decode cX12_cheapest 28 = .ok (.aload_n 0, 1) := dB_3_2_14.1.2.1.1
theorem dX12_cheapest_29 : decode cX12_cheapest 29 = .ok (.iload_n 1, 1) := dB_3_2_14.1.2.1.2
theorem dX12_cheapest_30 : decode cX12_cheapest 30 = .ok (.iload_n 2, 1) := dB_3_2_14.1.2.2.1
theorem dX12_cheapest_31 : decode cX12_cheapest 31 = .ok (.invokevirtual 166, 3) := dB_3_2_14.1.2.2.2
theorem dX12_cheapest_34 : decode cX12_cheapest 34 = .ok (.iload_n 3, 1) := dB_3_2_14.2.1.1.1
theorem dX12_cheapest_35 : decode cX12_cheapest 35 = .ok (.if_icmp .lt 5, 3) := dB_3_2_14.2.1.1.2
theorem dX12_cheapest_38 : decode cX12_cheapest 38 = .ok (.iconst 0, 1) := dB_3_2_14.2.1.2.1
theorem dX12_cheapest_39 : decode cX12_cheapest 39 = .ok (.ireturn, 1) := dB_3_2_14.2.1.2.2
theorem dX12_cheapest_40 : decode cX12_cheapest 40 = .ok (.iconst 0, 1) := dB_3_2_14.2.2.1.1
theorem dX12_cheapest_41 : decode cX12_cheapest 41 = .ok (.istore 4, 2) := dB_3_2_14.2.2.1.2
theorem dX12_cheapest_43 : decode cX12_cheapest 43 = .ok (.iload 4, 2) := dB_3_2_14.2.2.2.1
theorem dX12_cheapest_45 : decode cX12_cheapest 45 = .ok (.bipush 40, 2) := dB_3_2_14.2.2.2.2
theorem dB_3_2_15 : ((((decode cX12_cheapest 47 = .ok (.if_icmp .ge 17, 3)) ∧ (decode cX12_cheapest 50 = .ok (.aload_n 0, 1))) ∧ ((decode cX12_cheapest 51 = .ok (.getfield 61, 3)) ∧ (decode cX12_cheapest 54 = .ok (.iload 4, 2)))) ∧ (((decode cX12_cheapest 56 = .ok (.iconst 0, 1)) ∧ (decode cX12_cheapest 57 = .ok (.iastore, 1))) ∧ ((decode cX12_cheapest 58 = .ok (.iinc 4 1, 3)) ∧ (decode cX12_cheapest 61 = .ok (.goto (-18), 3))))) ∧ ((((decode cX12_cheapest 64 = .ok (.iload_n 3, 1)) ∧ (decode cX12_cheapest 65 = .ok (.istore 4, 2))) ∧ ((decode cX12_cheapest 67 = .ok (.lconst 0, 1)) ∧ (decode cX12_cheapest 68 = .ok (.lstore 5, 2)))) ∧ (((decode cX12_cheapest 70 = .ok (.iload 4, 2)) ∧ (decode cX12_cheapest 72 = .ok (.ifCond .le 187, 3))) ∧ ((decode cX12_cheapest 75 = .ok (.aload_n 0, 1)) ∧ (decode cX12_cheapest 76 = .ok (.iload_n 1, 1))))) := by first | decide +kernel | ((repeat' apply And.intro) <;> decide +kernel)
theorem dX12_cheapest_47 : decode cX12_cheapest 47 = .ok (.if_icmp .ge 17, 3) := dB_3_2_15.1.1.1.1
theorem dX12_cheapest_50 : decode cX12_cheapest 50 = .ok (.aload_n 0, 1) := dB_3_2_15.1.1.1.2
theorem dX12_cheapest_51 : decode cX12_cheapest 51 = .ok (.getfield 61, 3) := dB_3_2_15.1.1.2.1
theorem dX12_cheapest_54 : decode cX12_cheapest 54 = .ok (.iload 4, 2) := dB_3_2_15.1.1.2.2
theorem dX12_cheapest_56 : decode cX12_cheapest 56 = .ok (.iconst 0, 1) := dB_3_2_15.1.2.1.1
theorem dX12_cheapest_57 : decode cX12_cheapest 57 = .ok (.iastore, 1) := dB_3_2_15.1.2.1.2
theorem dX12_cheapest_58 : decode cX12_cheapest 58 = .ok (.iinc 4 1, 3) := dB_3_2_15.1.2.2.1
theorem dX12_cheapest_61 : decode cX12_cheapest 61 = .ok (.goto (-18), 3) := dB_3_2_15.1.2.2.2
theorem dX12_cheapest_64 : decode cX12_cheapest 64 = .ok (.iload_n 3, 1) := dB_3_2_15.2.1.1.1
theorem dX12_cheapest_65 : decode cX12_cheapest 65 = .ok (.istore 4, 2) := dB_3_2_15.2.1.1.2
theorem dX12_cheapest_67 : decode cX12_cheapest 67 = .ok (.lconst 0, 1) := dB_3_2_15.2.1.2.1
theorem dX12_cheapest_68 : decode cX12_cheapest 68 = .ok (.lstore 5, 2) := dB_3_2_15.2.1.2.2
theorem dX12_cheapest_70 : decode cX12_cheapest 70 = .ok (.iload 4, 2) := dB_3_2_15.2.2.1.1
theorem dX12_cheapest_72 : decode cX12_cheapest 72 = .ok (.ifCond .le 187, 3) := dB_3_2_15.2.2.1.2
theorem dX12_cheapest_75 : decode cX12_cheapest 75 = .ok (.aload_n 0, 1) := dB_3_2_15.2.2.2.1
theorem dX12_cheapest_76 : decode cX12_cheapest 76 = .ok (.iload_n 1, 1) := dB_3_2_15.2.2.2.2
theorem dB_3_2_16 : ((((decode cX12_cheapest 77 = .ok (.iload_n 2, 1)) ∧ (decode cX12_cheapest 78 = .ok (.invokevirtual 219, 3))) ∧ ((decode cX12_cheapest 81 = .ok (.ifCond .ne 6, 3)) ∧ (decode cX12_cheapest 84 = .ok (.bipush (-9), 2)))) ∧ (((decode cX12_cheapest 86 = .ok (.ireturn, 1)) ∧ (decode cX12_cheapest 87 = .ok (.iload 4, 2))) ∧ ((decode cX12_cheapest 89 = .ok (.istore 7, 2)) ∧ (decode cX12_cheapest 91 = .ok (.iload_n 2, 1))))) ∧ ((((decode cX12_cheapest 92 = .ok (.istore 8, 2)) ∧ (decode cX12_cheapest 94 = .ok (.iload 8, 2))) ∧ ((decode cX12_cheapest 96 = .ok (.iload_n 1, 1)) ∧ (decode cX12_cheapest 97 = .ok (.if_icmp .eq 71, 3)))) ∧ (((decode cX12_cheapest 100 = .ok (.aload_n 0, 1)) ∧ (decode cX12_cheapest 101 = .ok (.aload_n 0, 1))) ∧ ((decode cX12_cheapest 102 = .ok (.getfield 73, 3)) ∧ (decode cX12_cheapest 105 = .ok (.iload 8, 2))))) := by first | decide +kernel | ((repeat' apply And.intro) <;> decide +kernel)
theorem dX12_cheapest_77 : decode cX12_cheapest 77 = .ok (.iload_n 2, 1) := dB_3_2_16.1.1.1.1
theorem dX12_cheapest_78 : decode cX12_cheapest 78 = .ok (.invokevirtual 219, 3) := dB_3_2_16.1.1.1.2
theorem dX12_cheapest_81 : decode cX12_cheapest 81 = .ok (.ifCond .ne 6, 3) := dB_3_2_16.1.1.2.1
theorem dX12_cheapest_84 : decode cX12_cheapest 84 = .ok (.bipush (-9), 2) := dB_3_2_16.1.1.2.2
theorem dX12_cheapest_86 : decode cX12_cheapest 86 = .ok (.ireturn, 1) := dB_3_2_16.1.2.1.1
theorem dX12_cheapest_87 : decode cX12_cheapest 87 = .ok (.iload 4, 2) := dB_3_2_16.1.2.1.2
theorem dX12_cheapest_89 : decode cX12_cheapest 89 = .ok (.istore 7, 2) := dB_3_2_16.1.2.2.1
theorem dX12_cheapest_91 : decode cX12_cheapest 91 = .ok (.iload_n 2, 1) := dB_3_2_16.1.2.2.2
theorem dX12_cheapest_92 : decode cX12_cheapest 92 = .ok (.istore 8, 2) := dB_3_2_16.2.1.1.1
theorem dX12_cheapest_94 : decode cX12_cheapest 94 = .ok (.iload 8, 2) := dB_3_2_16.2.1.1.2
theorem dX12_cheapest_96 : decode cX12_cheapest 96 = .ok (.iload_n 1, 1) := dB_3_2_16.2.1.2.1
theorem dX12_cheapest_97 : decode cX12_cheapest 97 = .ok (.if_icmp .eq 71, 3) := dB_3_2_16.2.1.2.2
theorem dX12_cheapest_100 : decode cX12_cheapest 100 = .ok (.aload_n 0, 1) := dB_3_2_16.2.2.1.1
theorem dX12_cheapest_101 : decode cX12_cheapest 101 = .ok (.aload_n 0, 1) := dB_3_2_16.2.2.1.2
theorem dX12_cheapest_102 : decode cX12_cheapest 102 = .ok (.getfield 73, 3) := dB_3_2_16.2.2.2.1
theorem dX12_cheapest_105 : decode cX12_cheapest 105 = .ok (.iload 8, 2) := dB_3_2_16.2.2.2.2
theorem dB_3_2_17 : ((((decode cX12_cheapest 107 = .ok (.iaload, 1)) ∧ (decode cX12_cheapest 108 = .ok (.aload_n 0, 1))) ∧ ((decode cX12_cheapest 109 = .ok (.getfield 13, 3)) ∧ (decode cX12_cheapest 112 = .ok (.aload_n 0, 1)))) ∧ (((decode cX12_cheapest 113 = .ok (.getfield 73, 3)) ∧ (decode cX12_cheapest 116 = .ok (.iload 8, 2))) ∧ ((decode cX12_cheapest 118 = .ok (.iaload, 1)) ∧ (decode cX12_cheapest 119 = .ok (.iaload, 1))))) ∧ ((((decode cX12_cheapest 120 = .ok (.aload_n 0, 1)) ∧ (decode cX12_cheapest 121 = .ok (.getfield 76, 3))) ∧ ((decode cX12_cheapest 124 = .ok (.iload 8, 2)) ∧ (decode cX12_cheapest 126 = .ok (.iaload, 1)))) ∧ (((decode cX12_cheapest 127 = .ok (.if_icmp .ne 7, 3)) ∧ (decode cX12_cheapest 130 = .ok (.iconst 1, 1))) ∧ ((decode cX12_cheapest 131 = .ok (.goto 4, 3)) ∧ (decode cX12_cheapest 134 = .ok (.iconst 0, 1))))) := by first | decide +kernel | ((repeat' apply And.intro) <;> decide +kernel)
theorem dX12_cheapest_107 : decode cX12_cheapest 107 = .ok (.iaload, 1) := dB_3_2_17.1.1.1.1
theorem dX12_cheapest_108 : decode cX12_cheapest 108 = .ok (.aload_n 0, 1) := dB_3_2_17.1.1.1.2
theorem dX12_cheapest_109 : decode cX12_cheapest 109 = .ok (.getfield 13, 3) := dB_3_2_17.1.1.2.1
theorem dX12_cheapest_112 : decode cX12_cheapest 112 = .ok (.aload_n 0, 1) := dB_3_2_17.1.1.2.2
theorem dX12_cheapest_113 : decode cX12_cheapest 113 = .ok (.getfield 73, 3) := dB_3_2_17.1.2.1.1
theorem dX12_cheapest_116 : decode cX12_cheapest 116 = .ok (.iload 8, 2) := dB_3_2_17.1.2.1.2
theorem dX12_cheapest_118 : decode cX12_cheapest 118 = .ok (.iaload, 1) := dB_3_2_17.1.2.2.1
theorem dX12_cheapest_119 : decode cX12_cheapest 119 = .ok (.iaload, 1) := dB_3_2_17.1.2.2.2
theorem dX12_cheapest_120 : decode cX12_cheapest 120 = .ok (.aload_n 0, 1) := dB_3_2_17.2.1.1.1
theorem dX12_cheapest_121 : decode cX12_cheapest 121 = .ok (.getfield 76, 3) := dB_3_2_17.2.1.1.2
theorem dX12_cheapest_124 : decode cX12_cheapest 124 = .ok (.iload 8, 2) := dB_3_2_17.2.1.2.1
theorem dX12_cheapest_126 : decode cX12_cheapest 126 = .ok (.iaload, 1) := dB_3_2_17.2.1.2.2
theorem dX12_cheapest_127 : decode cX12_cheapest 127 = .ok (.if_icmp .ne 7, 3) := dB_3_2_17.2.2.1.1
theorem dX12_cheapest_130 : decode cX12_cheapest 130 = .ok (.iconst 1, 1) := dB_3_2_17.2.2.1.2
theorem dX12_cheapest_131 : decode cX12_cheapest 131 = .ok (.goto 4, 3) := dB_3_2_17.2.2.2.1
theorem dX12_cheapest_134 : decode cX12_cheapest 134 = .ok (.iconst 0, 1) := dB_3_2_17.2.2.2.2
theorem dB_3_2_18 : ((((decode cX12_cheapest 135 = .ok (.invokevirtual 222, 3)) ∧ (decode cX12_cheapest 138 = .ok (.istore 9, 2))) ∧ ((decode cX12_cheapest 140 = .ok (.iload 9, 2)) ∧ (decode cX12_cheapest 142 = .ok (.iload 7, 2)))) ∧ (((decode cX12_cheapest 144 = .ok (.if_icmp .ge 8, 3)) ∧ (decode cX12_cheapest 147 = .ok (.iload 9, 2))) ∧ ((decode cX12_cheapest 149 = .ok (.goto 5, 3)) ∧ (decode cX12_cheapest 152 = .ok (.iload 7, 2))))) ∧ ((((decode cX12_cheapest 154 = .ok (.istore 7, 2)) ∧ (decode cX12_cheapest 156 = .ok (.aload_n 0, 1))) ∧ ((decode cX12_cheapest 157 = .ok (.getfield 76, 3)) ∧ (decode cX12_cheapest 160 = .ok (.iload 8, 2)))) ∧ (((decode cX12_cheapest 162 = .ok (.iaload, 1)) ∧ (decode cX12_cheapest 163 = .ok (.istore 8, 2))) ∧ ((decode cX12_cheapest 165 = .ok (.goto (-71), 3)) ∧ (decode cX12_cheapest 168 = .ok (.iload_n 2, 1))))) := by first | decide +kernel | ((repeat' apply And.intro) <;> decide +kernel)
theorem dX12_cheapest_135 : decode cX12_cheapest 135 = .ok (.invokevirtual 222, 3) := dB_3_2_18.1.1.1.1
theorem dX12_cheapest_138 : decode cX12_cheapest 138 = .ok (.istore 9, 2) := dB_3_2_18.1.1.1.2
theorem dX12_cheapest_140 : decode cX12_cheapest 140 = .ok (.iload 9, 2) := dB_3_2_18.1.1.2.1
theorem dX12_cheapest_142 : decode cX12_cheapest 142 = .ok (.iload 7, 2) := dB_3_2_18.1.1.2.2
theorem dX12_cheapest_144 : decode cX12_cheapest 144 = .ok (.if_icmp .ge 8, 3) := dB_3_2_18.1.2.1.1
theorem dX12_cheapest_147 : decode cX12_cheapest 147 = .ok (.iload 9, 2) := dB_3_2_18.1.2.1.2
theorem dX12_cheapest_149 : decode cX12_cheapest 149 = .ok (.goto 5, 3) := dB_3_2_18.1.2.2.1
theorem dX12_cheapest_152 : decode cX12_cheapest 152 = .ok (.iload 7, 2) := dB_3_2_18.1.2.2.2
theorem dX12_cheapest_154 : decode cX12_cheapest 154 = .ok (.istore 7, 2) := dB_3_2_18.2.1.1.1
theorem dX12_cheapest_156 : decode cX12_cheapest 156 = .ok (.aload_n 0, 1) := dB_3_2_18.2.1.1.2
theorem dX12_cheapest_157 : decode cX12_cheapest 157 = .ok (.getfield 76, 3) := dB_3_2_18.2.1.2.1
theorem dX12_cheapest_160 : decode cX12_cheapest 160 = .ok (.iload 8, 2) := dB_3_2_18.2.1.2.2
theorem dX12_cheapest_162 : decode cX12_cheapest 162 = .ok (.iaload, 1) := dB_3_2_18.2.2.1.1
theorem dX12_cheapest_163 : decode cX12_cheapest 163 = .ok (.istore 8, 2) := dB_3_2_18.2.2.1.2
theorem dX12_cheapest_165 : decode cX12_cheapest 165 = .ok (.goto (-71), 3) := dB_3_2_18.2.2.2.1
theorem dX12_cheapest_168 : decode cX12_cheapest 168 = .ok (.iload_n 2, 1) := dB_3_2_18.2.2.2.2
theorem dB_3_2_19 : ((((decode cX12_cheapest 169 = .ok (.istore 8, 2)) ∧ (decode cX12_cheapest 171 = .ok (.iload 8, 2))) ∧ ((decode cX12_cheapest 173 = .ok (.iload_n 1, 1)) ∧ (decode cX12_cheapest 174 = .ok (.if_icmp .eq 60, 3)))) ∧ (((decode cX12_cheapest 177 = .ok (.aload_n 0, 1)) ∧ (decode cX12_cheapest 178 = .ok (.getfield 61, 3))) ∧ ((decode cX12_cheapest 181 = .ok (.aload_n 0, 1)) ∧ (decode cX12_cheapest 182 = .ok (.getfield 73, 3))))) ∧ ((((decode cX12_cheapest 185 = .ok (.iload 8, 2)) ∧ (decode cX12_cheapest 187 = .ok (.iaload, 1))) ∧ ((decode cX12_cheapest 188 = .ok (.dup2, 1)) ∧ (decode cX12_cheapest 189 = .ok (.iaload, 1)))) ∧ (((decode cX12_cheapest 190 = .ok (.aload_n 0, 1)) ∧ (decode cX12_cheapest 191 = .ok (.getfield 13, 3))) ∧ ((decode cX12_cheapest 194 = .ok (.aload_n 0, 1)) ∧ (decode cX12_cheapest 195 = .ok (.getfield 73, 3))))) := by first | decide +kernel | ((repeat' apply And.intro) <;> decide +kernel)
theorem dX12_cheapest_169 : decode cX12_cheapest 169 = .ok (.istore 8, 2) := dB_3_2_19.1.1.1.1
theorem dX12_cheapest_171 : decode cX12_cheapest 171 = .ok (.iload 8, 2) := dB_3_2_19.1.1.1.2
theorem dX12_cheapest_173 : decode cX12_cheapest 173 = .ok (.iload_n 1, 1) := dB_3_2_19.1.1.2.1
theorem dX12_cheapest_174 : decode cX12_cheapest 174 = .ok (.if_icmp .eq 60, 3) := dB_3_2_19.1.1.2.2
theorem dX12_cheapest_177 : decode cX12_cheapest 177 = .ok (.aload_n 0, 1) := dB_3_2_19.1.2.1.1
theorem dX12_cheapest_178 : decode cX12_cheapest 178 = .ok (.getfield 61, 3) := dB_3_2_19.1.2.1.2
theorem dX12_cheapest_181 : decode cX12_cheapest 181 = .ok (.aload_n 0, 1) := dB_3_2_19.1.2.2.1
theorem dX12_cheapest_182 : decode cX12_cheapest 182 = .ok (.getfield 73, 3) := dB_3_2_19.1.2.2.2
theorem dX12_cheapest_185 : decode cX12_cheapest 185 = .ok (.iload 8, 2) := dB_3_2_19.2.1.1.1
theorem dX12_cheapest_187 : decode cX12_cheapest 187 = .ok (.iaload, 1) := dB_3_2_19.2.1.1.2
theorem dX12_cheapest_188 : decode cX12_cheapest 188 = .ok (.dup2, 1) := dB_3_2_19.2.1.2.1
theorem dX12_cheapest_189 : decode cX12_cheapest 189 = .ok (.iaload, 1) := dB_3_2_19.2.1.2.2
theorem dX12_cheapest_190 : decode cX12_cheapest 190 = .ok (.aload_n 0, 1) := dB_3_2_19.2.2.1.1
theorem dX12_cheapest_191 : decode cX12_cheapest 191 = .ok (.getfield 13, 3) := dB_3_2_19.2.2.1.2
theorem dX12_cheapest_194 : decode cX12_cheapest 194 = .ok (.aload_n 0, 1) := dB_3_2_19.2.2.2.1
theorem dX12_cheapest_195 : decode cX12_cheapest 195 = .ok (.getfield 73, 3) := dB_3_2_19.2.2.2.2
theorem dB_3_2_20 : ((((decode cX12_cheapest 198 = .ok (.iload 8, 2)) ∧ (decode cX12_cheapest 200 = .ok (.iaload, 1))) ∧ ((decode cX12_cheapest 201 = .ok (.iaload, 1)) ∧ (decode cX12_cheapest 202 = .ok (.aload_n 0, 1)))) ∧ (((decode cX12_cheapest 203 = .ok (.getfield 76, 3)) ∧ (decode cX12_cheapest 206 = .ok (.iload 8, 2))) ∧ ((decode cX12_cheapest 208 = .ok (.iaload, 1)) ∧ (decode cX12_cheapest 209 = .ok (.if_icmp .ne 8, 3))))) ∧ ((((decode cX12_cheapest 212 = .ok (.iload 7, 2)) ∧ (decode cX12_cheapest 214 = .ok (.goto 6, 3))) ∧ ((decode cX12_cheapest 217 = .ok (.iload 7, 2)) ∧ (decode cX12_cheapest 219 = .ok (.ineg, 1)))) ∧ (((decode cX12_cheapest 220 = .ok (.iadd, 1)) ∧ (decode cX12_cheapest 221 = .ok (.iastore, 1))) ∧ ((decode cX12_cheapest 222 = .ok (.aload_n 0, 1)) ∧ (decode cX12_cheapest 223 = .ok (.getfield 76, 3))))) := by first | decide +kernel | ((repeat' apply And.intro) <;> decide +kernel)
theorem dX12_cheapest_198 : decode cX12_cheapest 198 = .ok (.iload 8, 2) := dB_3_2_20.1.1.1.1
theorem dX12_cheapest_200 : decode cX12_cheapest 200 = .ok (.iaload, 1) := dB_3_2_20.1.1.1.2
theorem dX12_cheapest_201 : decode cX12_cheapest 201 = .ok (.iaload, 1) := dB_3_2_20.1.1.2.1
theorem dX12_cheapest_202 : decode cX12_cheapest 202 = .ok (.aload_n 0, 1) := dB_3_2_20.1.1.2.2
theorem dX12_cheapest_203 : decode cX12_cheapest 203 = .ok (.getfield 76, 3) := dB_3_2_20.1.2.1.1
theorem dX12_cheapest_206 : decode cX12_cheapest 206 = .ok (.iload 8, 2) := dB_3_2_20.1.2.1.2
theorem dX12_cheapest_208 : decode cX12_cheapest 208 = .ok (.iaload, 1) := dB_3_2_20.1.2.2.1
theorem dX12_cheapest_209 : decode cX12_cheapest 209 = .ok (.if_icmp .ne 8, 3) := dB_3_2_20.1.2.2.2
theorem dX12_cheapest_212 : decode cX12_cheapest 212 = .ok (.iload 7, 2) := dB_3_2_20.2.1.1.1
theorem dX12_cheapest_214 : decode cX12_cheapest 214 = .ok (.goto 6, 3) := dB_3_2_20.2.1.1.2
theorem dX12_cheapest_217 : decode cX12_cheapest 217 = .ok (.iload 7, 2) := dB_3_2_20.2.1.2.1
theorem dX12_cheapest_219 : decode cX12_cheapest 219 = .ok (.ineg, 1) := dB_3_2_20.2.1.2.2
theorem dX12_cheapest_220 : decode cX12_cheapest 220 = .ok (.iadd, 1) := dB_3_2_20.2.2.1.1
theorem dX12_cheapest_221 : decode cX12_cheapest 221 = .ok (.iastore, 1) := dB_3_2_20.2.2.1.2
theorem dX12_cheapest_222 : decode cX12_cheapest 222 = .ok (.aload_n 0, 1) := dB_3_2_20.2.2.2.1
theorem dX12_cheapest_223 : decode cX12_cheapest 223 = .ok (.getfield 76, 3) := dB_3_2_20.2.2.2.2
theorem dB_3_2_21 : ((((decode cX12_cheapest 226 = .ok (.iload 8, 2)) ∧ (decode cX12_cheapest 228 = .ok (.iaload, 1))) ∧ ((decode cX12_cheapest 229 = .ok (.istore 8, 2)) ∧ (decode cX12_cheapest 231 = .ok (.goto (-60), 3)))) ∧ (((decode cX12_cheapest 234 = .ok (.lload 5, 2)) ∧ (decode cX12_cheapest 236 = .ok (.aload_n 0, 1))) ∧ ((decode cX12_cheapest 237 = .ok (.getfield 70, 3)) ∧ (decode cX12_cheapest 240 = .ok (.iload_n 2, 1))))) ∧ ((((decode cX12_cheapest 241 = .ok (.laload, 1)) ∧ (decode cX12_cheapest 242 = .ok (.iload 7, 2))) ∧ ((decode cX12_cheapest 244 = .ok (.i2l, 1)) ∧ (decode cX12_cheapest 245 = .ok (.lmul, 1)))) ∧ (((decode cX12_cheapest 246 = .ok (.ladd, 1)) ∧ (decode cX12_cheapest 247 = .ok (.lstore 5, 2))) ∧ ((decode cX12_cheapest 249 = .ok (.iload 4, 2)) ∧ (decode cX12_cheapest 251 = .ok (.iload 7, 2))))) := by first | decide +kernel | ((repeat' apply And.intro) <;> decide +kernel)
theorem dX12_cheapest_226 : decode cX12_cheapest 226 = .ok (.iload 8, 2) := dB_3_2_21.1.1.1.1
theorem dX12_cheapest_228 : decode cX12_cheapest 228 = .ok (.iaload, 1) := dB_3_2_21.1.1.1.2
theorem dX12_cheapest_229 : decode cX12_cheapest 229 = .ok (.istore 8, 2) := dB_3_2_21.1.1.2.1
theorem dX12_cheapest_231 : decode cX12_cheapest 231 = .ok (.goto (-60), 3) := dB_3_2_21.1.1.2.2
theorem dX12_cheapest_234 : decode cX12_cheapest 234 = .ok (.lload 5, 2) := dB_3_2_21.1.2.1.1
theorem dX12_cheapest_236 : decode cX12_cheapest 236 = .ok (.aload_n 0, 1) := dB_3_2_21.1.2.1.2
theorem dX12_cheapest_237 : decode cX12_cheapest 237 = .ok (.getfield 70, 3) := dB_3_2_21.1.2.2.1
theorem dX12_cheapest_240 : decode cX12_cheapest 240 = .ok (.iload_n 2, 1) := dB_3_2_21.1.2.2.2
theorem dX12_cheapest_241 : decode cX12_cheapest 241 = .ok (.laload, 1) := dB_3_2_21.2.1.1.1
theorem dX12_cheapest_242 : decode cX12_cheapest 242 = .ok (.iload 7, 2) := dB_3_2_21.2.1.1.2
theorem dX12_cheapest_244 : decode cX12_cheapest 244 = .ok (.i2l, 1) := dB_3_2_21.2.1.2.1
theorem dX12_cheapest_245 : decode cX12_cheapest 245 = .ok (.lmul, 1) := dB_3_2_21.2.1.2.2
theorem dX12_cheapest_246 : decode cX12_cheapest 246 = .ok (.ladd, 1) := dB_3_2_21.2.2.1.1
theorem dX12_cheapest_247 : decode cX12_cheapest 247 = .ok (.lstore 5, 2) := dB_3_2_21.2.2.1.2
theorem dX12_cheapest_249 : decode cX12_cheapest 249 = .ok (.iload 4, 2) := dB_3_2_21.2.2.2.1
theorem dX12_cheapest_251 : decode cX12_cheapest 251 = .ok (.iload 7, 2) := dB_3_2_21.2.2.2.2
theorem dB_3_2_22 : ((((decode cX12_cheapest 253 = .ok (.isub, 1)) ∧ (decode cX12_cheapest 254 = .ok (.istore 4, 2))) ∧ ((decode cX12_cheapest 256 = .ok (.goto (-186), 3)) ∧ (decode cX12_cheapest 259 = .ok (.lload 5, 2)))) ∧ (((decode cX12_cheapest 261 = .ok (.l2i, 1)) ∧ (decode cX12_cheapest 262 = .ok (.ireturn, 1))) ∧ ((decode cX12_isWhole 0 = .ok (.aload_n 0, 1)) ∧ (decode cX12_isWhole 1 = .ok (.getfield 88, 3))))) ∧ ((((decode cX12_isWhole 4 = .ok (.iconst 1, 1)) ∧ (decode cX12_isWhole 5 = .ok (.if_icmp .le 7, 3))) ∧ ((decode cX12_isWhole 8 = .ok (.iconst 1, 1)) ∧ (decode cX12_isWhole 9 = .ok (.goto 4, 3)))) ∧ (((decode cX12_isWhole 12 = .ok (.iconst 0, 1)) ∧ (decode cX12_isWhole 13 = .ok (.istore_n 1, 1))) ∧ ((decode cX12_isWhole 14 = .ok (.iconst 0, 1)) ∧ (decode cX12_isWhole 15 = .ok (.istore_n 2, 1))))) := by first | decide +kernel | ((repeat' apply And.intro) <;> decide +kernel)
theorem dX12_cheapest_253 : decode cX12_cheapest 253 = .ok (.isub, 1) := dB_3_2_22.1.1.1.1
theorem dX12_cheapest_254 : decode cX12_cheapest 254 = .ok (.istore 4, 2) := dB_3_2_22.1.1.1.2
theorem dX12_cheapest_256 : decode cX12_cheapest 256 = .ok (.goto (-186), 3) := dB_3_2_22.1.1.2.1
theorem dX12_cheapest_259 : decode cX12_cheapest 259 = .ok (.lload 5, 2) := dB_3_2_22.1.1.2.2
theorem dX12_cheapest_261 : decode cX12_cheapest 261 = .ok (.l2i, 1) := dB_3_2_22.1.2.1.1
theorem dX12_cheapest_262 : decode cX12_cheapest 262 = .ok (.ireturn, 1) := dB_3_2_22.1.2.1.2
theorem dX12_isWhole_0 : decode cX12_isWhole 0 = .ok (.aload_n 0, 1) := dB_3_2_22.1.2.2.1
theorem dX12_isWhole_1 : decode cX12_isWhole 1 = .ok (.getfield 88, 3) := dB_3_2_22.1.2.2.2
theorem dX12_isWhole_4 : decode cX12_isWhole 4 = .ok (.iconst 1, 1) := dB_3_2_22.2.1.1.1
theorem dX12_isWhole_5 : decode cX12_isWhole 5 = .ok (.if_icmp .le 7, 3) := dB_3_2_22.2.1.1.2
theorem dX12_isWhole_8 : decode cX12_isWhole 8 = .ok (.iconst 1, 1) := dB_3_2_22.2.1.2.1
theorem dX12_isWhole_9 : decode cX12_isWhole 9 = .ok (.goto 4, 3) := dB_3_2_22.2.1.2.2
theorem dX12_isWhole_12 : decode cX12_isWhole 12 = .ok (.iconst 0, 1) := dB_3_2_22.2.2.1.1
theorem dX12_isWhole_13 : decode cX12_isWhole 13 = .ok (.istore_n 1, 1) := dB_3_2_22.2.2.1.2
theorem dX12_isWhole_14 : decode cX12_isWhole 14 = .ok (.iconst 0, 1) := dB_3_2_22.2.2.2.1
theorem dX12_isWhole_15 : decode cX12_isWhole 15 = .ok (.istore_n 2, 1) := dB_3_2_22.2.2.2.2
theorem dB_3_2_23 : ((((decode cX12_isWhole 16 = .ok (.iload_n 2, 1)) ∧ (decode cX12_isWhole 17 = .ok (.aload_n 0, 1))) ∧ ((decode cX12_isWhole 18 = .ok (.getfield 95, 3)) ∧ (decode cX12_isWhole 21 = .ok (.if_icmp .ge 46, 3)))) ∧ (((decode cX12_isWhole 24 = .ok (.iload_n 1, 1)) ∧ (decode cX12_isWhole 25 = .ok (.aload_n 0, 1))) ∧ ((decode cX12_isWhole 26 = .ok (.getfield 25, 3)) ∧ (decode cX12_isWhole 29 = .ok (.iload_n 2, 1))))) ∧ ((((decode cX12_isWhole 30 = .ok (.baload, 1)) ∧ (decode cX12_isWhole 31 = .ok (.ifCond .ne 23, 3))) ∧ ((decode cX12_isWhole 34 = .ok (.aload_n 0, 1)) ∧ (decode cX12_isWhole 35 = .ok (.getfield 7, 3)))) ∧ (((decode cX12_isWhole 38 = .ok (.iload_n 2, 1)) ∧ (decode cX12_isWhole 39 = .ok (.iaload, 1))) ∧ ((decode cX12_isWhole 40 = .ok (.iconst 1, 1)) ∧ (decode cX12_isWhole 41 = .ok (.if_icmp .eq 17, 3))))) := by first | decide +kernel | ((repeat' apply And.intro) <;> decide +kernel)
theorem dX12_isWhole_16 : decode cX12_isWhole 16 = .ok (.iload_n 2, 1) := dB_3_2_23.1.1.1.1
theorem dX12_isWhole_17 : decode cX12_isWhole 17 = .ok (.aload_n 0, 1) := dB_3_2_23.1.1.1.2
theorem dX12_isWhole_18 : decode cX12_isWhole 18 = .ok (.getfield 95, 3) := dB_3_2_23.1.1.2.1
theorem dX12_isWhole_21 : decode cX12_isWhole 21 = .ok (.if_icmp .ge 46, 3) := dB_3_2_23.1.1.2.2
theorem dX12_isWhole_24 : decode cX12_isWhole 24 = .ok (.iload_n 1, 1) := dB_3_2_23.1.2.1.1
theorem dX12_isWhole_25 : decode cX12_isWhole 25 = .ok (.aload_n 0, 1) := dB_3_2_23.1.2.1.2
theorem dX12_isWhole_26 : decode cX12_isWhole 26 = .ok (.getfield 25, 3) := dB_3_2_23.1.2.2.1
theorem dX12_isWhole_29 : decode cX12_isWhole 29 = .ok (.iload_n 2, 1) := dB_3_2_23.1.2.2.2
theorem dX12_isWhole_30 : decode cX12_isWhole 30 = .ok (.baload, 1) := dB_3_2_23.2.1.1.1
theorem dX12_isWhole_31 : decode cX12_isWhole 31 = .ok (.ifCond .ne 23, 3) := dB_3_2_23.2.1.1.2
theorem dX12_isWhole_34 : decode cX12_isWhole 34 = .ok (.aload_n 0, 1) := dB_3_2_23.2.1.2.1
theorem dX12_isWhole_35 : decode cX12_isWhole 35 = .ok (.getfield 7, 3) := dB_3_2_23.2.1.2.2
theorem dX12_isWhole_38 : decode cX12_isWhole 38 = .ok (.iload_n 2, 1) := dB_3_2_23.2.2.1.1
theorem dX12_isWhole_39 : decode cX12_isWhole 39 = .ok (.iaload, 1) := dB_3_2_23.2.2.1.2
theorem dX12_isWhole_40 : decode cX12_isWhole 40 = .ok (.iconst 1, 1) := dB_3_2_23.2.2.2.1
theorem dX12_isWhole_41 : decode cX12_isWhole 41 = .ok (.if_icmp .eq 17, 3) := dB_3_2_23.2.2.2.2
theorem dB_3_2_24 : ((((decode cX12_isWhole 44 = .ok (.aload_n 0, 1)) ∧ (decode cX12_isWhole 45 = .ok (.getfield 7, 3))) ∧ ((decode cX12_isWhole 48 = .ok (.iload_n 2, 1)) ∧ (decode cX12_isWhole 49 = .ok (.iaload, 1)))) ∧ (((decode cX12_isWhole 50 = .ok (.iconst 2, 1)) ∧ (decode cX12_isWhole 51 = .ok (.if_icmp .eq 7, 3))) ∧ ((decode cX12_isWhole 54 = .ok (.iconst 1, 1)) ∧ (decode cX12_isWhole 55 = .ok (.goto 4, 3))))) ∧ ((((decode cX12_isWhole 58 = .ok (.iconst 0, 1)) ∧ (decode cX12_isWhole 59 = .ok (.iand, 1))) ∧ ((decode cX12_isWhole 60 = .ok (.istore_n 1, 1)) ∧ (decode cX12_isWhole 61 = .ok (.iinc 2 1, 3)))) ∧ (((decode cX12_isWhole 64 = .ok (.goto (-48), 3)) ∧ (decode cX12_isWhole 67 = .ok (.iload_n 1, 1))) ∧ ((decode cX12_isWhole 68 = .ok (.ireturn, 1)) ∧ (decode cX12_plants 0 = .ok (.iconst 0, 1))))) := by first | decide +kernel | ((repeat' apply And.intro) <;> decide +kernel)
theorem dX12_isWhole_44 : decode cX12_isWhole 44 = .ok (.aload_n 0, 1) := dB_3_2_24.1.1.1.1
theorem dX12_isWhole_45 : decode cX12_isWhole 45 = .ok (.getfield 7, 3) := dB_3_2_24.1.1.1.2
theorem dX12_isWhole_48 : decode cX12_isWhole 48 = .ok (.iload_n 2, 1) := dB_3_2_24.1.1.2.1
theorem dX12_isWhole_49 : decode cX12_isWhole 49 = .ok (.iaload, 1) := dB_3_2_24.1.1.2.2
theorem dX12_isWhole_50 : decode cX12_isWhole 50 = .ok (.iconst 2, 1) := dB_3_2_24.1.2.1.1
theorem dX12_isWhole_51 : decode cX12_isWhole 51 = .ok (.if_icmp .eq 7, 3) := dB_3_2_24.1.2.1.2
theorem dX12_isWhole_54 : decode cX12_isWhole 54 = .ok (.iconst 1, 1) := dB_3_2_24.1.2.2.1
theorem dX12_isWhole_55 : decode cX12_isWhole 55 = .ok (.goto 4, 3) := dB_3_2_24.1.2.2.2
theorem dX12_isWhole_58 : decode cX12_isWhole 58 = .ok (.iconst 0, 1) := dB_3_2_24.2.1.1.1
theorem dX12_isWhole_59 : decode cX12_isWhole 59 = .ok (.iand, 1) := dB_3_2_24.2.1.1.2
theorem dX12_isWhole_60 : decode cX12_isWhole 60 = .ok (.istore_n 1, 1) := dB_3_2_24.2.1.2.1
theorem dX12_isWhole_61 : decode cX12_isWhole 61 = .ok (.iinc 2 1, 3) := dB_3_2_24.2.1.2.2
theorem dX12_isWhole_64 : decode cX12_isWhole 64 = .ok (.goto (-48), 3) := dB_3_2_24.2.2.1.1
theorem dX12_isWhole_67 : decode cX12_isWhole 67 = .ok (.iload_n 1, 1) := dB_3_2_24.2.2.1.2
theorem dX12_isWhole_68 : decode cX12_isWhole 68 = .ok (.ireturn, 1) := dB_3_2_24.2.2.2.1
theorem dX12_plants_0 : decode cX12_plants 0 = .ok (.iconst 0, 1) := dB_3_2_24.2.2.2.2
theorem dB_3_2_25 : ((((decode cX12_plants 1 = .ok (.istore_n 1, 1)) ∧ (decode cX12_plants 2 = .ok (.iload_n 1, 1))) ∧ ((decode cX12_plants 3 = .ok (.bipush 12, 2)) ∧ (decode cX12_plants 5 = .ok (.if_icmp .ge 24, 3)))) ∧ (((decode cX12_plants 8 = .ok (.aload_n 0, 1)) ∧ (decode cX12_plants 9 = .ok (.getfield 79, 3))) ∧ ((decode cX12_plants 12 = .ok (.iload_n 1, 1)) ∧ (decode cX12_plants 13 = .ok (.iconst 0, 1))))) ∧ ((((decode cX12_plants 14 = .ok (.iastore, 1)) ∧ (decode cX12_plants 15 = .ok (.aload_n 0, 1))) ∧ ((decode cX12_plants 16 = .ok (.getfield 82, 3)) ∧ (decode cX12_plants 19 = .ok (.iload_n 1, 1)))) ∧ (((decode cX12_plants 20 = .ok (.bipush (-9), 2)) ∧ (decode cX12_plants 22 = .ok (.iastore, 1))) ∧ ((decode cX12_plants 23 = .ok (.iinc 1 1, 3)) ∧ (decode cX12_plants 26 = .ok (.goto (-24), 3))))) := by first | decide +kernel | ((repeat' apply And.intro) <;> decide +kernel)
theorem dX12_plants_1 : decode cX12_plants 1 = .ok (.istore_n 1, 1) := dB_3_2_25.1.1.1.1
theorem dX12_plants_2 : decode cX12_plants 2 = .ok (.iload_n 1, 1) := dB_3_2_25.1.1.1.2
theorem dX12_plants_3 : decode cX12_plants 3 = .ok (.bipush 12, 2) := dB_3_2_25.1.1.2.1
theorem dX12_plants_5 : decode cX12_plants 5 = .ok (.if_icmp .ge 24, 3) := dB_3_2_25.1.1.2.2
theorem dX12_plants_8 : decode cX12_plants 8 = .ok (.aload_n 0, 1) := dB_3_2_25.1.2.1.1
theorem dX12_plants_9 : decode cX12_plants 9 = .ok (.getfield 79, 3) := dB_3_2_25.1.2.1.2
theorem dX12_plants_12 : decode cX12_plants 12 = .ok (.iload_n 1, 1) := dB_3_2_25.1.2.2.1
theorem dX12_plants_13 : decode cX12_plants 13 = .ok (.iconst 0, 1) := dB_3_2_25.1.2.2.2
theorem dX12_plants_14 : decode cX12_plants 14 = .ok (.iastore, 1) := dB_3_2_25.2.1.1.1
theorem dX12_plants_15 : decode cX12_plants 15 = .ok (.aload_n 0, 1) := dB_3_2_25.2.1.1.2
theorem dX12_plants_16 : decode cX12_plants 16 = .ok (.getfield 82, 3) := dB_3_2_25.2.1.2.1
theorem dX12_plants_19 : decode cX12_plants 19 = .ok (.iload_n 1, 1) := dB_3_2_25.2.1.2.2
theorem dX12_plants_20 : decode cX12_plants 20 = .ok (.bipush (-9), 2) := dB_3_2_25.2.2.1.1
theorem dX12_plants_22 : decode cX12_plants 22 = .ok (.iastore, 1) := dB_3_2_25.2.2.1.2
theorem dX12_plants_23 : decode cX12_plants 23 = .ok (.iinc 1 1, 3) := dB_3_2_25.2.2.2.1
theorem dX12_plants_26 : decode cX12_plants 26 = .ok (.goto (-24), 3) := dB_3_2_25.2.2.2.2
theorem dB_3_2_26 : ((((decode cX12_plants 29 = .ok (.iconst 1, 1)) ∧ (decode cX12_plants 30 = .ok (.istore_n 1, 1))) ∧ ((decode cX12_plants 31 = .ok (.iload_n 1, 1)) ∧ (decode cX12_plants 32 = .ok (.aload_n 0, 1)))) ∧ (((decode cX12_plants 33 = .ok (.getfield 88, 3)) ∧ (decode cX12_plants 36 = .ok (.if_icmp .ge 161, 3))) ∧ ((decode cX12_plants 39 = .ok (.aload_n 0, 1)) ∧ (decode cX12_plants 40 = .ok (.getfield 79, 3))))) ∧ ((((decode cX12_plants 43 = .ok (.iload_n 1, 1)) ∧ (decode cX12_plants 44 = .ok (.iaload, 1))) ∧ ((decode cX12_plants 45 = .ok (.istore_n 2, 1)) ∧ (decode cX12_plants 46 = .ok (.aload_n 0, 1)))) ∧ (((decode cX12_plants 47 = .ok (.iload_n 1, 1)) ∧ (decode cX12_plants 48 = .ok (.iload_n 2, 1))) ∧ ((decode cX12_plants 49 = .ok (.invokevirtual 166, 3)) ∧ (decode cX12_plants 52 = .ok (.istore_n 3, 1))))) := by first | decide +kernel | ((repeat' apply And.intro) <;> decide +kernel)
theorem dX12_plants_29 : decode cX12_plants 29 = .ok (.iconst 1, 1) := dB_3_2_26.1.1.1.1
theorem dX12_plants_30 : decode cX12_plants 30 = .ok (.istore_n 1, 1) := dB_3_2_26.1.1.1.2
theorem dX12_plants_31 : decode cX12_plants 31 = .ok (.iload_n 1, 1) := dB_3_2_26.1.1.2.1
theorem dX12_plants_32 : decode cX12_plants 32 = .ok (.aload_n 0, 1) := dB_3_2_26.1.1.2.2
theorem dX12_plants_33 : decode cX12_plants 33 = .ok (.getfield 88, 3) := dB_3_2_26.1.2.1.1
theorem dX12_plants_36 : decode cX12_plants 36 = .ok (.if_icmp .ge 161, 3) := dB_3_2_26.1.2.1.2
theorem dX12_plants_39 : decode cX12_plants 39 = .ok (.aload_n 0, 1) := dB_3_2_26.1.2.2.1
theorem dX12_plants_40 : decode cX12_plants 40 = .ok (.getfield 79, 3) := dB_3_2_26.1.2.2.2
theorem dX12_plants_43 : decode cX12_plants 43 = .ok (.iload_n 1, 1) := dB_3_2_26.2.1.1.1
theorem dX12_plants_44 : decode cX12_plants 44 = .ok (.iaload, 1) := dB_3_2_26.2.1.1.2
theorem dX12_plants_45 : decode cX12_plants 45 = .ok (.istore_n 2, 1) := dB_3_2_26.2.1.2.1
theorem dX12_plants_46 : decode cX12_plants 46 = .ok (.aload_n 0, 1) := dB_3_2_26.2.1.2.2
theorem dX12_plants_47 : decode cX12_plants 47 = .ok (.iload_n 1, 1) := dB_3_2_26.2.2.1.1
theorem dX12_plants_48 : decode cX12_plants 48 = .ok (.iload_n 2, 1) := dB_3_2_26.2.2.1.2
theorem dX12_plants_49 : decode cX12_plants 49 = .ok (.invokevirtual 166, 3) := dB_3_2_26.2.2.2.1
theorem dX12_plants_52 : decode cX12_plants 52 = .ok (.istore_n 3, 1) := dB_3_2_26.2.2.2.2
theorem dB_3_2_27 : ((((decode cX12_plants 53 = .ok (.aload_n 0, 1)) ∧ (decode cX12_plants 54 = .ok (.iload_n 1, 1))) ∧ ((decode cX12_plants 55 = .ok (.iload_n 2, 1)) ∧ (decode cX12_plants 56 = .ok (.iload_n 3, 1)))) ∧ (((decode cX12_plants 57 = .ok (.iconst 0, 1)) ∧ (decode cX12_plants 58 = .ok (.invokevirtual 207, 3))) ∧ ((decode cX12_plants 61 = .ok (.aload_n 0, 1)) ∧ (decode cX12_plants 62 = .ok (.getfield 195, 3))))) ∧ ((((decode cX12_plants 65 = .ok (.istore 4, 2)) ∧ (decode cX12_plants 67 = .ok (.aload_n 0, 1))) ∧ ((decode cX12_plants 68 = .ok (.getfield 82, 3)) ∧ (decode cX12_plants 71 = .ok (.iload_n 1, 1)))) ∧ (((decode cX12_plants 72 = .ok (.iload_n 3, 1)) ∧ (decode cX12_plants 73 = .ok (.iastore, 1))) ∧ ((decode cX12_plants 74 = .ok (.iload_n 1, 1)) ∧ (decode cX12_plants 75 = .ok (.iconst 1, 1))))) := by first | decide +kernel | ((repeat' apply And.intro) <;> decide +kernel)
theorem dX12_plants_53 : decode cX12_plants 53 = .ok (.aload_n 0, 1) := dB_3_2_27.1.1.1.1
theorem dX12_plants_54 : decode cX12_plants 54 = .ok (.iload_n 1, 1) := dB_3_2_27.1.1.1.2
theorem dX12_plants_55 : decode cX12_plants 55 = .ok (.iload_n 2, 1) := dB_3_2_27.1.1.2.1
theorem dX12_plants_56 : decode cX12_plants 56 = .ok (.iload_n 3, 1) := dB_3_2_27.1.1.2.2
theorem dX12_plants_57 : decode cX12_plants 57 = .ok (.iconst 0, 1) := dB_3_2_27.1.2.1.1
theorem dX12_plants_58 : decode cX12_plants 58 = .ok (.invokevirtual 207, 3) := dB_3_2_27.1.2.1.2
theorem dX12_plants_61 : decode cX12_plants 61 = .ok (.aload_n 0, 1) := dB_3_2_27.1.2.2.1
theorem dX12_plants_62 : decode cX12_plants 62 = .ok (.getfield 195, 3) := dB_3_2_27.1.2.2.2
theorem dX12_plants_65 : decode cX12_plants 65 = .ok (.istore 4, 2) := dB_3_2_27.2.1.1.1
theorem dX12_plants_67 : decode cX12_plants 67 = .ok (.aload_n 0, 1) := dB_3_2_27.2.1.1.2
theorem dX12_plants_68 : decode cX12_plants 68 = .ok (.getfield 82, 3) := dB_3_2_27.2.1.2.1
theorem dX12_plants_71 : decode cX12_plants 71 = .ok (.iload_n 1, 1) := dB_3_2_27.2.1.2.2
theorem dX12_plants_72 : decode cX12_plants 72 = .ok (.iload_n 3, 1) := dB_3_2_27.2.2.1.1
theorem dX12_plants_73 : decode cX12_plants 73 = .ok (.iastore, 1) := dB_3_2_27.2.2.1.2
theorem dX12_plants_74 : decode cX12_plants 74 = .ok (.iload_n 1, 1) := dB_3_2_27.2.2.2.1
theorem dX12_plants_75 : decode cX12_plants 75 = .ok (.iconst 1, 1) := dB_3_2_27.2.2.2.2
theorem dB_3_2_28 : ((((decode cX12_plants 76 = .ok (.iadd, 1)) ∧ (decode cX12_plants 77 = .ok (.istore 5, 2))) ∧ ((decode cX12_plants 79 = .ok (.iload 5, 2)) ∧ (decode cX12_plants 81 = .ok (.aload_n 0, 1)))) ∧ (((decode cX12_plants 82 = .ok (.getfield 88, 3)) ∧ (decode cX12_plants 85 = .ok (.if_icmp .ge 49, 3))) ∧ ((decode cX12_plants 88 = .ok (.aload_n 0, 1)) ∧ (decode cX12_plants 89 = .ok (.getfield 79, 3))))) ∧ ((((decode cX12_plants 92 = .ok (.iload 5, 2)) ∧ (decode cX12_plants 94 = .ok (.iload 4, 2))) ∧ ((decode cX12_plants 96 = .ok (.iload 5, 2)) ∧ (decode cX12_plants 98 = .ok (.ishr, 1)))) ∧ (((decode cX12_plants 99 = .ok (.iconst 1, 1)) ∧ (decode cX12_plants 100 = .ok (.iand, 1))) ∧ ((decode cX12_plants 101 = .ok (.iconst 1, 1)) ∧ (decode cX12_plants 102 = .ok (.if_icmp .ne 18, 3))))) := by first | decide +kernel | ((repeat' apply And.intro) <;> decide +kernel)
theorem dX12_plants_76 : decode cX12_plants 76 = .ok (.iadd, 1) := dB_3_2_28.1.1.1.1
theorem dX12_plants_77 : decode cX12_plants 77 = .ok (.istore 5, 2) := dB_3_2_28.1.1.1.2
theorem dX12_plants_79 : decode cX12_plants 79 = .ok (.iload 5, 2) := dB_3_2_28.1.1.2.1
theorem dX12_plants_81 : decode cX12_plants 81 = .ok (.aload_n 0, 1) := dB_3_2_28.1.1.2.2
theorem dX12_plants_82 : decode cX12_plants 82 = .ok (.getfield 88, 3) := dB_3_2_28.1.2.1.1
theorem dX12_plants_85 : decode cX12_plants 85 = .ok (.if_icmp .ge 49, 3) := dB_3_2_28.1.2.1.2
theorem dX12_plants_88 : decode cX12_plants 88 = .ok (.aload_n 0, 1) := dB_3_2_28.1.2.2.1
theorem dX12_plants_89 : decode cX12_plants 89 = .ok (.getfield 79, 3) := dB_3_2_28.1.2.2.2
theorem dX12_plants_92 : decode cX12_plants 92 = .ok (.iload 5, 2) := dB_3_2_28.2.1.1.1
theorem dX12_plants_94 : decode cX12_plants 94 = .ok (.iload 4, 2) := dB_3_2_28.2.1.1.2
theorem dX12_plants_96 : decode cX12_plants 96 = .ok (.iload 5, 2) := dB_3_2_28.2.1.2.1
theorem dX12_plants_98 : decode cX12_plants 98 = .ok (.ishr, 1) := dB_3_2_28.2.1.2.2
theorem dX12_plants_99 : decode cX12_plants 99 = .ok (.iconst 1, 1) := dB_3_2_28.2.2.1.1
theorem dX12_plants_100 : decode cX12_plants 100 = .ok (.iand, 1) := dB_3_2_28.2.2.1.2
theorem dX12_plants_101 : decode cX12_plants 101 = .ok (.iconst 1, 1) := dB_3_2_28.2.2.2.1
theorem dX12_plants_102 : decode cX12_plants 102 = .ok (.if_icmp .ne 18, 3) := dB_3_2_28.2.2.2.2
theorem dB_3_2_29 : ((((decode cX12_plants 105 = .ok (.aload_n 0, 1)) ∧ (decode cX12_plants 106 = .ok (.getfield 79, 3))) ∧ ((decode cX12_plants 109 = .ok (.iload 5, 2)) ∧ (decode cX12_plants 111 = .ok (.iaload, 1)))) ∧ (((decode cX12_plants 112 = .ok (.iload_n 2, 1)) ∧ (decode cX12_plants 113 = .ok (.if_icmp .ne 7, 3))) ∧ ((decode cX12_plants 116 = .ok (.iload_n 1, 1)) ∧ (decode cX12_plants 117 = .ok (.goto 10, 3))))) ∧ ((((decode cX12_plants 120 = .ok (.aload_n 0, 1)) ∧ (decode cX12_plants 121 = .ok (.getfield 79, 3))) ∧ ((decode cX12_plants 124 = .ok (.iload 5, 2)) ∧ (decode cX12_plants 126 = .ok (.iaload, 1)))) ∧ (((decode cX12_plants 127 = .ok (.iastore, 1)) ∧ (decode cX12_plants 128 = .ok (.iinc 5 1, 3))) ∧ ((decode cX12_plants 131 = .ok (.goto (-52), 3)) ∧ (decode cX12_plants 134 = .ok (.iload_n 2, 1))))) := by first | decide +kernel | ((repeat' apply And.intro) <;> decide +kernel)
theorem dX12_plants_105 : decode cX12_plants 105 = .ok (.aload_n 0, 1) := dB_3_2_29.1.1.1.1
theorem dX12_plants_106 : decode cX12_plants 106 = .ok (.getfield 79, 3) := dB_3_2_29.1.1.1.2
theorem dX12_plants_109 : decode cX12_plants 109 = .ok (.iload 5, 2) := dB_3_2_29.1.1.2.1
theorem dX12_plants_111 : decode cX12_plants 111 = .ok (.iaload, 1) := dB_3_2_29.1.1.2.2
theorem dX12_plants_112 : decode cX12_plants 112 = .ok (.iload_n 2, 1) := dB_3_2_29.1.2.1.1
theorem dX12_plants_113 : decode cX12_plants 113 = .ok (.if_icmp .ne 7, 3) := dB_3_2_29.1.2.1.2
theorem dX12_plants_116 : decode cX12_plants 116 = .ok (.iload_n 1, 1) := dB_3_2_29.1.2.2.1
theorem dX12_plants_117 : decode cX12_plants 117 = .ok (.goto 10, 3) := dB_3_2_29.1.2.2.2
theorem dX12_plants_120 : decode cX12_plants 120 = .ok (.aload_n 0, 1) := dB_3_2_29.2.1.1.1
theorem dX12_plants_121 : decode cX12_plants 121 = .ok (.getfield 79, 3) := dB_3_2_29.2.1.1.2
theorem dX12_plants_124 : decode cX12_plants 124 = .ok (.iload 5, 2) := dB_3_2_29.2.1.2.1
theorem dX12_plants_126 : decode cX12_plants 126 = .ok (.iaload, 1) := dB_3_2_29.2.1.2.2
theorem dX12_plants_127 : decode cX12_plants 127 = .ok (.iastore, 1) := dB_3_2_29.2.2.1.1
theorem dX12_plants_128 : decode cX12_plants 128 = .ok (.iinc 5 1, 3) := dB_3_2_29.2.2.1.2
theorem dX12_plants_131 : decode cX12_plants 131 = .ok (.goto (-52), 3) := dB_3_2_29.2.2.2.1
theorem dX12_plants_134 : decode cX12_plants 134 = .ok (.iload_n 2, 1) := dB_3_2_29.2.2.2.2
theorem dB_3_2_30 : ((((decode cX12_plants 135 = .ok (.ifCond .eq 56, 3)) ∧ (decode cX12_plants 138 = .ok (.iload 4, 2))) ∧ ((decode cX12_plants 140 = .ok (.aload_n 0, 1)) ∧ (decode cX12_plants 141 = .ok (.getfield 79, 3)))) ∧ (((decode cX12_plants 144 = .ok (.iload_n 2, 1)) ∧ (decode cX12_plants 145 = .ok (.iaload, 1))) ∧ ((decode cX12_plants 146 = .ok (.ishr, 1)) ∧ (decode cX12_plants 147 = .ok (.iconst 1, 1))))) ∧ ((((decode cX12_plants 148 = .ok (.iand, 1)) ∧ (decode cX12_plants 149 = .ok (.iconst 1, 1))) ∧ ((decode cX12_plants 150 = .ok (.if_icmp .ne 41, 3)) ∧ (decode cX12_plants 153 = .ok (.aload_n 0, 1)))) ∧ (((decode cX12_plants 154 = .ok (.getfield 79, 3)) ∧ (decode cX12_plants 157 = .ok (.iload_n 1, 1))) ∧ ((decode cX12_plants 158 = .ok (.aload_n 0, 1)) ∧ (decode cX12_plants 159 = .ok (.getfield 79, 3))))) := by first | decide +kernel | ((repeat' apply And.intro) <;> decide +kernel)
theorem dX12_plants_135 : decode cX12_plants 135 = .ok (.ifCond .eq 56, 3) := dB_3_2_30.1.1.1.1
theorem dX12_plants_138 : decode cX12_plants 138 = .ok (.iload 4, 2) := dB_3_2_30.1.1.1.2
theorem dX12_plants_140 : decode cX12_plants 140 = .ok (.aload_n 0, 1) := dB_3_2_30.1.1.2.1
theorem dX12_plants_141 : decode cX12_plants 141 = .ok (.getfield 79, 3) := dB_3_2_30.1.1.2.2
theorem dX12_plants_144 : decode cX12_plants 144 = .ok (.iload_n 2, 1) := dB_3_2_30.1.2.1.1
theorem dX12_plants_145 : decode cX12_plants 145 = .ok (.iaload, 1) := dB_3_2_30.1.2.1.2
theorem dX12_plants_146 : decode cX12_plants 146 = .ok (.ishr, 1) := dB_3_2_30.1.2.2.1
theorem dX12_plants_147 : decode cX12_plants 147 = .ok (.iconst 1, 1) := dB_3_2_30.1.2.2.2
theorem dX12_plants_148 : decode cX12_plants 148 = .ok (.iand, 1) := dB_3_2_30.2.1.1.1
theorem dX12_plants_149 : decode cX12_plants 149 = .ok (.iconst 1, 1) := dB_3_2_30.2.1.1.2
theorem dX12_plants_150 : decode cX12_plants 150 = .ok (.if_icmp .ne 41, 3) := dB_3_2_30.2.1.2.1
theorem dX12_plants_153 : decode cX12_plants 153 = .ok (.aload_n 0, 1) := dB_3_2_30.2.1.2.2
theorem dX12_plants_154 : decode cX12_plants 154 = .ok (.getfield 79, 3) := dB_3_2_30.2.2.1.1
theorem dX12_plants_157 : decode cX12_plants 157 = .ok (.iload_n 1, 1) := dB_3_2_30.2.2.1.2
theorem dX12_plants_158 : decode cX12_plants 158 = .ok (.aload_n 0, 1) := dB_3_2_30.2.2.2.1
theorem dX12_plants_159 : decode cX12_plants 159 = .ok (.getfield 79, 3) := dB_3_2_30.2.2.2.2
theorem dB_3_2_31 : ((((decode cX12_plants 162 = .ok (.iload_n 2, 1)) ∧ (decode cX12_plants 163 = .ok (.iaload, 1))) ∧ ((decode cX12_plants 164 = .ok (.iastore, 1)) ∧ (decode cX12_plants 165 = .ok (.aload_n 0, 1)))) ∧ (((decode cX12_plants 166 = .ok (.getfield 82, 3)) ∧ (decode cX12_plants 169 = .ok (.iload_n 1, 1))) ∧ ((decode cX12_plants 170 = .ok (.aload_n 0, 1)) ∧ (decode cX12_plants 171 = .ok (.getfield 82, 3))))) ∧ ((((decode cX12_plants 174 = .ok (.iload_n 2, 1)) ∧ (decode cX12_plants 175 = .ok (.iaload, 1))) ∧ ((decode cX12_plants 176 = .ok (.iastore, 1)) ∧ (decode cX12_plants 177 = .ok (.aload_n 0, 1)))) ∧ (((decode cX12_plants 178 = .ok (.getfield 79, 3)) ∧ (decode cX12_plants 181 = .ok (.iload_n 2, 1))) ∧ ((decode cX12_plants 182 = .ok (.iload_n 1, 1)) ∧ (decode cX12_plants 183 = .ok (.iastore, 1))))) := by first | decide +kernel | ((repeat' apply And.intro) <;> decide +kernel)
theorem dX12_plants_162 : decode cX12_plants 162 = .ok (.iload_n 2, 1) := dB_3_2_31.1.1.1.1
theorem dX12_plants_163 : decode cX12_plants 163 = .ok (.iaload, 1) := dB_3_2_31.1.1.1.2
theorem dX12_plants_164 : decode cX12_plants 164 = .ok (.iastore, 1) := dB_3_2_31.1.1.2.1
theorem dX12_plants_165 : decode cX12_plants 165 = .ok (.aload_n 0, 1) := dB_3_2_31.1.1.2.2
theorem dX12_plants_166 : decode cX12_plants 166 = .ok (.getfield 82, 3) := dB_3_2_31.1.2.1.1
theorem dX12_plants_169 : decode cX12_plants 169 = .ok (.iload_n 1, 1) := dB_3_2_31.1.2.1.2
theorem dX12_plants_170 : decode cX12_plants 170 = .ok (.aload_n 0, 1) := dB_3_2_31.1.2.2.1
theorem dX12_plants_171 : decode cX12_plants 171 = .ok (.getfield 82, 3) := dB_3_2_31.1.2.2.2
theorem dX12_plants_174 : decode cX12_plants 174 = .ok (.iload_n 2, 1) := dB_3_2_31.2.1.1.1
theorem dX12_plants_175 : decode cX12_plants 175 = .ok (.iaload, 1) := dB_3_2_31.2.1.1.2
theorem dX12_plants_176 : decode cX12_plants 176 = .ok (.iastore, 1) := dB_3_2_31.2.1.2.1
theorem dX12_plants_177 : decode cX12_plants 177 = .ok (.aload_n 0, 1) := dB_3_2_31.2.1.2.2
theorem dX12_plants_178 : decode cX12_plants 178 = .ok (.getfield 79, 3) := dB_3_2_31.2.2.1.1
theorem dX12_plants_181 : decode cX12_plants 181 = .ok (.iload_n 2, 1) := dB_3_2_31.2.2.1.2
theorem dX12_plants_182 : decode cX12_plants 182 = .ok (.iload_n 1, 1) := dB_3_2_31.2.2.2.1
theorem dX12_plants_183 : decode cX12_plants 183 = .ok (.iastore, 1) := dB_3_2_31.2.2.2.2
theorem dB_3_2_32 : ((((decode cX12_plants 184 = .ok (.aload_n 0, 1)) ∧ (decode cX12_plants 185 = .ok (.getfield 82, 3))) ∧ ((decode cX12_plants 188 = .ok (.iload_n 2, 1)) ∧ (decode cX12_plants 189 = .ok (.iload_n 3, 1)))) ∧ (((decode cX12_plants 190 = .ok (.iastore, 1)) ∧ (decode cX12_plants 191 = .ok (.iinc 1 1, 3))) ∧ ((decode cX12_plants 194 = .ok (.goto (-163), 3)) ∧ (decode cX12_plants 197 = .ok (.return_, 1))))) ∧ ((((decode cX12_tree 0 = .ok (.aload_n 0, 1)) ∧ (decode cX12_tree 1 = .ok (.iconst 0, 1))) ∧ ((decode cX12_tree 2 = .ok (.putfield 85, 3)) ∧ (decode cX12_tree 5 = .ok (.iload_n 2, 1)))) ∧ (((decode cX12_tree 6 = .ok (.i2l, 1)) ∧ (decode cX12_tree 7 = .ok (.lconst 0, 1))) ∧ ((decode cX12_tree 8 = .ok (.lconst 1, 1)) ∧ (decode cX12_tree 9 = .ok (.invokestatic 91, 3))))) := by first | decide +kernel | ((repeat' apply And.intro) <;> decide +kernel)
theorem dX12_plants_184 : decode cX12_plants 184 = .ok (.aload_n 0, 1) := dB_3_2_32.1.1.1.1
theorem dX12_plants_185 : decode cX12_plants 185 = .ok (.getfield 82, 3) := dB_3_2_32.1.1.1.2
theorem dX12_plants_188 : decode cX12_plants 188 = .ok (.iload_n 2, 1) := dB_3_2_32.1.1.2.1
theorem dX12_plants_189 : decode cX12_plants 189 = .ok (.iload_n 3, 1) := dB_3_2_32.1.1.2.2
theorem dX12_plants_190 : decode cX12_plants 190 = .ok (.iastore, 1) := dB_3_2_32.1.2.1.1
theorem dX12_plants_191 : decode cX12_plants 191 = .ok (.iinc 1 1, 3) := dB_3_2_32.1.2.1.2
theorem dX12_plants_194 : decode cX12_plants 194 = .ok (.goto (-163), 3) := dB_3_2_32.1.2.2.1
theorem dX12_plants_197 : decode cX12_plants 197 = .ok (.return_, 1) := dB_3_2_32.1.2.2.2
theorem dX12_tree_0 : decode cX12_tree 0 = .ok (.aload_n 0, 1) := dB_3_2_32.2.1.1.1
theorem dX12_tree_1 : decode cX12_tree 1 = .ok (.iconst 0, 1) := dB_3_2_32.2.1.1.2
theorem dX12_tree_2 : decode cX12_tree 2 = .ok (.putfield 85, 3) := dB_3_2_32.2.1.2.1
theorem dX12_tree_5 : decode cX12_tree 5 = .ok (.iload_n 2, 1) := dB_3_2_32.2.1.2.2
theorem dX12_tree_6 : decode cX12_tree 6 = .ok (.i2l, 1) := dB_3_2_32.2.2.1.1
theorem dX12_tree_7 : decode cX12_tree 7 = .ok (.lconst 0, 1) := dB_3_2_32.2.2.1.2
theorem dX12_tree_8 : decode cX12_tree 8 = .ok (.lconst 1, 1) := dB_3_2_32.2.2.2.1
theorem dX12_tree_9 : decode cX12_tree 9 = .ok (.invokestatic 91, 3) := dB_3_2_32.2.2.2.2
theorem dB_3_2_33 : ((((decode cX12_tree 12 = .ok (.ifCond .ne 5, 3)) ∧ (decode cX12_tree 15 = .ok (.iconst (-1), 1))) ∧ ((decode cX12_tree 16 = .ok (.ireturn, 1)) ∧ (decode cX12_tree 17 = .ok (.aload_n 0, 1)))) ∧ (((decode cX12_tree 18 = .ok (.invokevirtual 225, 3)) ∧ (decode cX12_tree 21 = .ok (.ifCond .ne 6, 3))) ∧ ((decode cX12_tree 24 = .ok (.bipush (-2), 2)) ∧ (decode cX12_tree 26 = .ok (.ireturn, 1))))) ∧ ((((decode cX12_tree 27 = .ok (.aload_n 0, 1)) ∧ (decode cX12_tree 28 = .ok (.iload_n 1, 1))) ∧ ((decode cX12_tree 29 = .ok (.invokevirtual 98, 3)) ∧ (decode cX12_tree 32 = .ok (.ifCond .ne 5, 3)))) ∧ (((decode cX12_tree 35 = .ok (.iconst (-1), 1)) ∧ (decode cX12_tree 36 = .ok (.ireturn, 1))) ∧ ((decode cX12_tree 37 = .ok (.aload_n 0, 1)) ∧ (decode cX12_tree 38 = .ok (.invokevirtual 229, 3))))) := by first | decide +kernel | ((repeat' apply And.intro) <;> decide +kernel)
theorem dX12_tree_12 : decode cX12_tree 12 = .ok (.ifCond .ne 5, 3) := dB_3_2_33.1.1.1.1
theorem dX12_tree_15 : decode cX12_tree 15 = .ok (.iconst (-1), 1) := dB_3_2_33.1.1.1.2
theorem dX12_tree_16 : decode cX12_tree 16 = .ok (.ireturn, 1) := dB_3_2_33.1.1.2.1
theorem dX12_tree_17 : decode cX12_tree 17 = .ok (.aload_n 0, 1) := dB_3_2_33.1.1.2.2
theorem dX12_tree_18 : decode cX12_tree 18 = .ok (.invokevirtual 225, 3) := dB_3_2_33.1.2.1.1
theorem dX12_tree_21 : decode cX12_tree 21 = .ok (.ifCond .ne 6, 3) := dB_3_2_33.1.2.1.2
theorem dX12_tree_24 : decode cX12_tree 24 = .ok (.bipush (-2), 2) := dB_3_2_33.1.2.2.1
theorem dX12_tree_26 : decode cX12_tree 26 = .ok (.ireturn, 1) := dB_3_2_33.1.2.2.2
theorem dX12_tree_27 : decode cX12_tree 27 = .ok (.aload_n 0, 1) := dB_3_2_33.2.1.1.1
theorem dX12_tree_28 : decode cX12_tree 28 = .ok (.iload_n 1, 1) := dB_3_2_33.2.1.1.2
theorem dX12_tree_29 : decode cX12_tree 29 = .ok (.invokevirtual 98, 3) := dB_3_2_33.2.1.2.1
theorem dX12_tree_32 : decode cX12_tree 32 = .ok (.ifCond .ne 5, 3) := dB_3_2_33.2.1.2.2
theorem dX12_tree_35 : decode cX12_tree 35 = .ok (.iconst (-1), 1) := dB_3_2_33.2.2.1.1
theorem dX12_tree_36 : decode cX12_tree 36 = .ok (.ireturn, 1) := dB_3_2_33.2.2.1.2
theorem dX12_tree_37 : decode cX12_tree 37 = .ok (.aload_n 0, 1) := dB_3_2_33.2.2.2.1
theorem dX12_tree_38 : decode cX12_tree 38 = .ok (.invokevirtual 229, 3) := dB_3_2_33.2.2.2.2
theorem dB_3_2_34 : ((((decode cX12_tree 41 = .ok (.iload_n 1, 1)) ∧ (decode cX12_tree 42 = .ok (.ifCond .ne 8, 3))) ∧ ((decode cX12_tree 45 = .ok (.bipush (-9), 2)) ∧ (decode cX12_tree 47 = .ok (.goto 22, 3)))) ∧ (((decode cX12_tree 50 = .ok (.iload_n 2, 1)) ∧ (decode cX12_tree 51 = .ok (.ifCond .ne 12, 3))) ∧ ((decode cX12_tree 54 = .ok (.aload_n 0, 1)) ∧ (decode cX12_tree 55 = .ok (.getfield 79, 3))))) ∧ ((((decode cX12_tree 58 = .ok (.iload_n 1, 1)) ∧ (decode cX12_tree 59 = .ok (.iaload, 1))) ∧ ((decode cX12_tree 60 = .ok (.goto 9, 3)) ∧ (decode cX12_tree 63 = .ok (.aload_n 0, 1)))) ∧ (((decode cX12_tree 64 = .ok (.getfield 82, 3)) ∧ (decode cX12_tree 67 = .ok (.iload_n 1, 1))) ∧ ((decode cX12_tree 68 = .ok (.iaload, 1)) ∧ (decode cX12_tree 69 = .ok (.ireturn, 1))))) := by first | decide +kernel | ((repeat' apply And.intro) <;> decide +kernel)
theorem dX12_tree_41 : decode cX12_tree 41 = .ok (.iload_n 1, 1) := dB_3_2_34.1.1.1.1
theorem dX12_tree_42 : decode cX12_tree 42 = .ok (.ifCond .ne 8, 3) := dB_3_2_34.1.1.1.2
theorem dX12_tree_45 : decode cX12_tree 45 = .ok (.bipush (-9), 2) := dB_3_2_34.1.1.2.1
theorem dX12_tree_47 : decode cX12_tree 47 = .ok (.goto 22, 3) := dB_3_2_34.1.1.2.2
theorem dX12_tree_50 : decode cX12_tree 50 = .ok (.iload_n 2, 1) := dB_3_2_34.1.2.1.1
theorem dX12_tree_51 : decode cX12_tree 51 = .ok (.ifCond .ne 12, 3) := dB_3_2_34.1.2.1.2
theorem dX12_tree_54 : decode cX12_tree 54 = .ok (.aload_n 0, 1) := dB_3_2_34.1.2.2.1
theorem dX12_tree_55 : decode cX12_tree 55 = .ok (.getfield 79, 3) := dB_3_2_34.1.2.2.2
theorem dX12_tree_58 : decode cX12_tree 58 = .ok (.iload_n 1, 1) := dB_3_2_34.2.1.1.1
theorem dX12_tree_59 : decode cX12_tree 59 = .ok (.iaload, 1) := dB_3_2_34.2.1.1.2
theorem dX12_tree_60 : decode cX12_tree 60 = .ok (.goto 9, 3) := dB_3_2_34.2.1.2.1
theorem dX12_tree_63 : decode cX12_tree 63 = .ok (.aload_n 0, 1) := dB_3_2_34.2.1.2.2
theorem dX12_tree_64 : decode cX12_tree 64 = .ok (.getfield 82, 3) := dB_3_2_34.2.2.1.1
theorem dX12_tree_67 : decode cX12_tree 67 = .ok (.iload_n 1, 1) := dB_3_2_34.2.2.1.2
theorem dX12_tree_68 : decode cX12_tree 68 = .ok (.iaload, 1) := dB_3_2_34.2.2.2.1
theorem dX12_tree_69 : decode cX12_tree 69 = .ok (.ireturn, 1) := dB_3_2_34.2.2.2.2
theorem dB_3_2_35 : ((((decode cX12_between 0 = .ok (.aload_n 0, 1)) ∧ (decode cX12_between 1 = .ok (.iconst 0, 1))) ∧ ((decode cX12_between 2 = .ok (.putfield 85, 3)) ∧ (decode cX12_between 5 = .ok (.aload_n 0, 1)))) ∧ (((decode cX12_between 6 = .ok (.invokevirtual 225, 3)) ∧ (decode cX12_between 9 = .ok (.ifCond .ne 6, 3))) ∧ ((decode cX12_between 12 = .ok (.bipush (-2), 2)) ∧ (decode cX12_between 14 = .ok (.ireturn, 1))))) ∧ ((((decode cX12_between 15 = .ok (.aload_n 0, 1)) ∧ (decode cX12_between 16 = .ok (.iload_n 1, 1))) ∧ ((decode cX12_between 17 = .ok (.iload_n 2, 1)) ∧ (decode cX12_between 18 = .ok (.invokevirtual 143, 3)))) ∧ (((decode cX12_between 21 = .ok (.ifCond .eq 12, 3)) ∧ (decode cX12_between 24 = .ok (.aload_n 0, 1))) ∧ ((decode cX12_between 25 = .ok (.iload_n 1, 1)) ∧ (decode cX12_between 26 = .ok (.iload_n 2, 1))))) := by first | decide +kernel | ((repeat' apply And.intro) <;> decide +kernel)
theorem dX12_between_0 : decode cX12_between 0 = .ok (.aload_n 0, 1) := dB_3_2_35.1.1.1.1
theorem dX12_between_1 : decode cX12_between 1 = .ok (.iconst 0, 1) := dB_3_2_35.1.1.1.2
theorem dX12_between_2 : decode cX12_between 2 = .ok (.putfield 85, 3) := dB_3_2_35.1.1.2.1
theorem dX12_between_5 : decode cX12_between 5 = .ok (.aload_n 0, 1) := dB_3_2_35.1.1.2.2
theorem dX12_between_6 : decode cX12_between 6 = .ok (.invokevirtual 225, 3) := dB_3_2_35.1.2.1.1
theorem dX12_between_9 : decode cX12_between 9 = .ok (.ifCond .ne 6, 3) := dB_3_2_35.1.2.1.2
theorem dX12_between_12 : decode cX12_between 12 = .ok (.bipush (-2), 2) := dB_3_2_35.1.2.2.1
theorem dX12_between_14 : decode cX12_between 14 = .ok (.ireturn, 1) := dB_3_2_35.1.2.2.2
theorem dX12_between_15 : decode cX12_between 15 = .ok (.aload_n 0, 1) := dB_3_2_35.2.1.1.1
theorem dX12_between_16 : decode cX12_between 16 = .ok (.iload_n 1, 1) := dB_3_2_35.2.1.1.2
theorem dX12_between_17 : decode cX12_between 17 = .ok (.iload_n 2, 1) := dB_3_2_35.2.1.2.1
theorem dX12_between_18 : decode cX12_between 18 = .ok (.invokevirtual 143, 3) := dB_3_2_35.2.1.2.2
theorem dX12_between_21 : decode cX12_between 21 = .ok (.ifCond .eq 12, 3) := dB_3_2_35.2.2.1.1
theorem dX12_between_24 : decode cX12_between 24 = .ok (.aload_n 0, 1) := dB_3_2_35.2.2.1.2
theorem dX12_between_25 : decode cX12_between 25 = .ok (.iload_n 1, 1) := dB_3_2_35.2.2.2.1
theorem dX12_between_26 : decode cX12_between 26 = .ok (.iload_n 2, 1) := dB_3_2_35.2.2.2.2
theorem dB_3_2_36 : ((((decode cX12_between 27 = .ok (.invokevirtual 166, 3)) ∧ (decode cX12_between 30 = .ok (.goto 4, 3))) ∧ ((decode cX12_between 33 = .ok (.iconst (-1), 1)) ∧ (decode cX12_between 34 = .ok (.ireturn, 1)))) ∧ (((decode cX12_leastOf 0 = .ok (.ldc 159, 2)) ∧ (decode cX12_leastOf 2 = .ok (.istore_n 1, 1))) ∧ ((decode cX12_leastOf 3 = .ok (.iconst 1, 1)) ∧ (decode cX12_leastOf 4 = .ok (.istore_n 2, 1))))) ∧ ((((decode cX12_leastOf 5 = .ok (.iload_n 2, 1)) ∧ (decode cX12_leastOf 6 = .ok (.aload_n 0, 1))) ∧ ((decode cX12_leastOf 7 = .ok (.getfield 88, 3)) ∧ (decode cX12_leastOf 10 = .ok (.if_icmp .ge 27, 3)))) ∧ (((decode cX12_leastOf 13 = .ok (.aload_n 0, 1)) ∧ (decode cX12_leastOf 14 = .ok (.iload_n 2, 1))) ∧ ((decode cX12_leastOf 15 = .ok (.iconst 0, 1)) ∧ (decode cX12_leastOf 16 = .ok (.invokevirtual 166, 3))))) := by first | decide +kernel | ((repeat' apply And.intro) <;> decide +kernel)
theorem dX12_between_27 : decode cX12_between 27 = .ok (.invokevirtual 166, 3) := dB_3_2_36.1.1.1.1
theorem dX12_between_30 : decode cX12_between 30 = .ok (.goto 4, 3) := dB_3_2_36.1.1.1.2
theorem dX12_between_33 : decode cX12_between 33 = .ok (.iconst (-1), 1) := dB_3_2_36.1.1.2.1
theorem dX12_between_34 : decode cX12_between 34 = .ok (.ireturn, 1) := dB_3_2_36.1.1.2.2
theorem dX12_leastOf_0 : decode cX12_leastOf 0 = .ok (.ldc 159, 2) := dB_3_2_36.1.2.1.1
theorem dX12_leastOf_2 : decode cX12_leastOf 2 = .ok (.istore_n 1, 1) := dB_3_2_36.1.2.1.2
theorem dX12_leastOf_3 : decode cX12_leastOf 3 = .ok (.iconst 1, 1) := dB_3_2_36.1.2.2.1
theorem dX12_leastOf_4 : decode cX12_leastOf 4 = .ok (.istore_n 2, 1) := dB_3_2_36.1.2.2.2
theorem dX12_leastOf_5 : decode cX12_leastOf 5 = .ok (.iload_n 2, 1) := dB_3_2_36.2.1.1.1
theorem dX12_leastOf_6 : decode cX12_leastOf 6 = .ok (.aload_n 0, 1) := dB_3_2_36.2.1.1.2
theorem dX12_leastOf_7 : decode cX12_leastOf 7 = .ok (.getfield 88, 3) := dB_3_2_36.2.1.2.1
theorem dX12_leastOf_10 : decode cX12_leastOf 10 = .ok (.if_icmp .ge 27, 3) := dB_3_2_36.2.1.2.2
theorem dX12_leastOf_13 : decode cX12_leastOf 13 = .ok (.aload_n 0, 1) := dB_3_2_36.2.2.1.1
theorem dX12_leastOf_14 : decode cX12_leastOf 14 = .ok (.iload_n 2, 1) := dB_3_2_36.2.2.1.2
theorem dX12_leastOf_15 : decode cX12_leastOf 15 = .ok (.iconst 0, 1) := dB_3_2_36.2.2.2.1
theorem dX12_leastOf_16 : decode cX12_leastOf 16 = .ok (.invokevirtual 166, 3) := dB_3_2_36.2.2.2.2
theorem dB_3_2_37 : ((((decode cX12_leastOf 19 = .ok (.istore_n 3, 1)) ∧ (decode cX12_leastOf 20 = .ok (.iload_n 3, 1))) ∧ ((decode cX12_leastOf 21 = .ok (.iload_n 1, 1)) ∧ (decode cX12_leastOf 22 = .ok (.if_icmp .ge 7, 3)))) ∧ (((decode cX12_leastOf 25 = .ok (.iload_n 3, 1)) ∧ (decode cX12_leastOf 26 = .ok (.goto 4, 3))) ∧ ((decode cX12_leastOf 29 = .ok (.iload_n 1, 1)) ∧ (decode cX12_leastOf 30 = .ok (.istore_n 1, 1))))) ∧ ((((decode cX12_leastOf 31 = .ok (.iinc 2 1, 3)) ∧ (decode cX12_leastOf 34 = .ok (.goto (-29), 3))) ∧ ((decode cX12_leastOf 37 = .ok (.iload_n 1, 1)) ∧ (decode cX12_leastOf 38 = .ok (.ireturn, 1)))) ∧ (((decode cX12_least 0 = .ok (.aload_n 0, 1)) ∧ (decode cX12_least 1 = .ok (.iconst 0, 1))) ∧ ((decode cX12_least 2 = .ok (.putfield 85, 3)) ∧ (decode cX12_least 5 = .ok (.aload_n 0, 1))))) := by first | decide +kernel | ((repeat' apply And.intro) <;> decide +kernel)
theorem dX12_leastOf_19 : decode cX12_leastOf 19 = .ok (.istore_n 3, 1) := dB_3_2_37.1.1.1.1
theorem dX12_leastOf_20 : decode cX12_leastOf 20 = .ok (.iload_n 3, 1) := dB_3_2_37.1.1.1.2
theorem dX12_leastOf_21 : decode cX12_leastOf 21 = .ok (.iload_n 1, 1) := dB_3_2_37.1.1.2.1
theorem dX12_leastOf_22 : decode cX12_leastOf 22 = .ok (.if_icmp .ge 7, 3) := dB_3_2_37.1.1.2.2
theorem dX12_leastOf_25 : decode cX12_leastOf 25 = .ok (.iload_n 3, 1) := dB_3_2_37.1.2.1.1
theorem dX12_leastOf_26 : decode cX12_leastOf 26 = .ok (.goto 4, 3) := dB_3_2_37.1.2.1.2
theorem dX12_leastOf_29 : decode cX12_leastOf 29 = .ok (.iload_n 1, 1) := dB_3_2_37.1.2.2.1
theorem dX12_leastOf_30 : decode cX12_leastOf 30 = .ok (.istore_n 1, 1) := dB_3_2_37.1.2.2.2
theorem dX12_leastOf_31 : decode cX12_leastOf 31 = .ok (.iinc 2 1, 3) := dB_3_2_37.2.1.1.1
theorem dX12_leastOf_34 : decode cX12_leastOf 34 = .ok (.goto (-29), 3) := dB_3_2_37.2.1.1.2
theorem dX12_leastOf_37 : decode cX12_leastOf 37 = .ok (.iload_n 1, 1) := dB_3_2_37.2.1.2.1
theorem dX12_leastOf_38 : decode cX12_leastOf 38 = .ok (.ireturn, 1) := dB_3_2_37.2.1.2.2
theorem dX12_least_0 : decode cX12_least 0 = .ok (.aload_n 0, 1) := dB_3_2_37.2.2.1.1
theorem dX12_least_1 : decode cX12_least 1 = .ok (.iconst 0, 1) := dB_3_2_37.2.2.1.2
theorem dX12_least_2 : decode cX12_least 2 = .ok (.putfield 85, 3) := dB_3_2_37.2.2.2.1
theorem dX12_least_5 : decode cX12_least 5 = .ok (.aload_n 0, 1) := dB_3_2_37.2.2.2.2
theorem dB_3_2_38 : ((((decode cX12_least 6 = .ok (.invokevirtual 225, 3)) ∧ (decode cX12_least 9 = .ok (.ifCond .eq 10, 3))) ∧ ((decode cX12_least 12 = .ok (.aload_n 0, 1)) ∧ (decode cX12_least 13 = .ok (.invokevirtual 232, 3)))) ∧ (((decode cX12_least 16 = .ok (.goto 5, 3)) ∧ (decode cX12_least 19 = .ok (.bipush (-2), 2))) ∧ ((decode cX12_least 21 = .ok (.ireturn, 1)) ∧ (decode cX12_wholeCuts 0 = .ok (.aload_n 0, 1))))) ∧ ((((decode cX12_wholeCuts 1 = .ok (.invokevirtual 232, 3)) ∧ (decode cX12_wholeCuts 4 = .ok (.istore_n 2, 1))) ∧ ((decode cX12_wholeCuts 5 = .ok (.aload_n 0, 1)) ∧ (decode cX12_wholeCuts 6 = .ok (.iconst 0, 1)))) ∧ (((decode cX12_wholeCuts 7 = .ok (.putfield 192, 3)) ∧ (decode cX12_wholeCuts 10 = .ok (.aload_n 0, 1))) ∧ ((decode cX12_wholeCuts 11 = .ok (.bipush (-9), 2)) ∧ (decode cX12_wholeCuts 13 = .ok (.putfield 201, 3))))) := by first | decide +kernel | ((repeat' apply And.intro) <;> decide +kernel)
theorem dX12_least_6 : decode cX12_least 6 = .ok (.invokevirtual 225, 3) := dB_3_2_38.1.1.1.1
theorem dX12_least_9 : decode cX12_least 9 = .ok (.ifCond .eq 10, 3) := dB_3_2_38.1.1.1.2
theorem dX12_least_12 : decode cX12_least 12 = .ok (.aload_n 0, 1) := dB_3_2_38.1.1.2.1
theorem dX12_least_13 : decode cX12_least 13 = .ok (.invokevirtual 232, 3) := dB_3_2_38.1.1.2.2
theorem dX12_least_16 : decode cX12_least 16 = .ok (.goto 5, 3) := dB_3_2_38.1.2.1.1
theorem dX12_least_19 : decode cX12_least 19 = .ok (.bipush (-2), 2) := dB_3_2_38.1.2.1.2
theorem dX12_least_21 : decode cX12_least 21 = .ok (.ireturn, 1) := dB_3_2_38.1.2.2.1
theorem dX12_wholeCuts_0 : decode cX12_wholeCuts 0 = .ok (.aload_n 0, 1) := dB_3_2_38.1.2.2.2
theorem dX12_wholeCuts_1 : decode cX12_wholeCuts 1 = .ok (.invokevirtual 232, 3) := dB_3_2_38.2.1.1.1
theorem dX12_wholeCuts_4 : decode cX12_wholeCuts 4 = .ok (.istore_n 2, 1) := dB_3_2_38.2.1.1.2
theorem dX12_wholeCuts_5 : decode cX12_wholeCuts 5 = .ok (.aload_n 0, 1) := dB_3_2_38.2.1.2.1
theorem dX12_wholeCuts_6 : decode cX12_wholeCuts 6 = .ok (.iconst 0, 1) := dB_3_2_38.2.1.2.2
theorem dX12_wholeCuts_7 : decode cX12_wholeCuts 7 = .ok (.putfield 192, 3) := dB_3_2_38.2.2.1.1
theorem dX12_wholeCuts_10 : decode cX12_wholeCuts 10 = .ok (.aload_n 0, 1) := dB_3_2_38.2.2.1.2
theorem dX12_wholeCuts_11 : decode cX12_wholeCuts 11 = .ok (.bipush (-9), 2) := dB_3_2_38.2.2.2.1
theorem dX12_wholeCuts_13 : decode cX12_wholeCuts 13 = .ok (.putfield 201, 3) := dB_3_2_38.2.2.2.2
theorem dB_3_2_39 : ((((decode cX12_wholeCuts 16 = .ok (.iconst 2, 1)) ∧ (decode cX12_wholeCuts 17 = .ok (.istore_n 3, 1))) ∧ ((decode cX12_wholeCuts 18 = .ok (.iload_n 3, 1)) ∧ (decode cX12_wholeCuts 19 = .ok (.iconst 1, 1)))) ∧ (((decode cX12_wholeCuts 20 = .ok (.aload_n 0, 1)) ∧ (decode cX12_wholeCuts 21 = .ok (.getfield 88, 3))) ∧ ((decode cX12_wholeCuts 24 = .ok (.ishl, 1)) ∧ (decode cX12_wholeCuts 25 = .ok (.if_icmp .ge 48, 3))))) ∧ ((((decode cX12_wholeCuts 28 = .ok (.aload_n 0, 1)) ∧ (decode cX12_wholeCuts 29 = .ok (.iload_n 3, 1))) ∧ ((decode cX12_wholeCuts 30 = .ok (.invokevirtual 163, 3)) ∧ (decode cX12_wholeCuts 33 = .ok (.iload_n 2, 1)))) ∧ (((decode cX12_wholeCuts 34 = .ok (.if_icmp .ne 33, 3)) ∧ (decode cX12_wholeCuts 37 = .ok (.aload_n 0, 1))) ∧ ((decode cX12_wholeCuts 38 = .ok (.aload_n 0, 1)) ∧ (decode cX12_wholeCuts 39 = .ok (.getfield 192, 3))))) := by first | decide +kernel | ((repeat' apply And.intro) <;> decide +kernel)
theorem dX12_wholeCuts_16 : decode cX12_wholeCuts 16 = .ok (.iconst 2, 1) := dB_3_2_39.1.1.1.1
theorem dX12_wholeCuts_17 : decode cX12_wholeCuts 17 = .ok (.istore_n 3, 1) := dB_3_2_39.1.1.1.2
theorem dX12_wholeCuts_18 : decode cX12_wholeCuts 18 = .ok (.iload_n 3, 1) := dB_3_2_39.1.1.2.1
theorem dX12_wholeCuts_19 : decode cX12_wholeCuts 19 = .ok (.iconst 1, 1) := dB_3_2_39.1.1.2.2
theorem dX12_wholeCuts_20 : decode cX12_wholeCuts 20 = .ok (.aload_n 0, 1) := dB_3_2_39.1.2.1.1
theorem dX12_wholeCuts_21 : decode cX12_wholeCuts 21 = .ok (.getfield 88, 3) := dB_3_2_39.1.2.1.2
theorem dX12_wholeCuts_24 : decode cX12_wholeCuts 24 = .ok (.ishl, 1) := dB_3_2_39.1.2.2.1
theorem dX12_wholeCuts_25 : decode cX12_wholeCuts 25 = .ok (.if_icmp .ge 48, 3) := dB_3_2_39.1.2.2.2
theorem dX12_wholeCuts_28 : decode cX12_wholeCuts 28 = .ok (.aload_n 0, 1) := dB_3_2_39.2.1.1.1
theorem dX12_wholeCuts_29 : decode cX12_wholeCuts 29 = .ok (.iload_n 3, 1) := dB_3_2_39.2.1.1.2
theorem dX12_wholeCuts_30 : decode cX12_wholeCuts 30 = .ok (.invokevirtual 163, 3) := dB_3_2_39.2.1.2.1
theorem dX12_wholeCuts_33 : decode cX12_wholeCuts 33 = .ok (.iload_n 2, 1) := dB_3_2_39.2.1.2.2
theorem dX12_wholeCuts_34 : decode cX12_wholeCuts 34 = .ok (.if_icmp .ne 33, 3) := dB_3_2_39.2.2.1.1
theorem dX12_wholeCuts_37 : decode cX12_wholeCuts 37 = .ok (.aload_n 0, 1) := dB_3_2_39.2.2.1.2
theorem dX12_wholeCuts_38 : decode cX12_wholeCuts 38 = .ok (.aload_n 0, 1) := dB_3_2_39.2.2.2.1
theorem dX12_wholeCuts_39 : decode cX12_wholeCuts 39 = .ok (.getfield 192, 3) := dB_3_2_39.2.2.2.2
theorem dB_3_2_40 : ((((decode cX12_wholeCuts 42 = .ok (.iload_n 1, 1)) ∧ (decode cX12_wholeCuts 43 = .ok (.if_icmp .ne 7, 3))) ∧ ((decode cX12_wholeCuts 46 = .ok (.iload_n 3, 1)) ∧ (decode cX12_wholeCuts 47 = .ok (.goto 7, 3)))) ∧ (((decode cX12_wholeCuts 50 = .ok (.aload_n 0, 1)) ∧ (decode cX12_wholeCuts 51 = .ok (.getfield 201, 3))) ∧ ((decode cX12_wholeCuts 54 = .ok (.putfield 201, 3)) ∧ (decode cX12_wholeCuts 57 = .ok (.aload_n 0, 1))))) ∧ ((((decode cX12_wholeCuts 58 = .ok (.dup, 1)) ∧ (decode cX12_wholeCuts 59 = .ok (.getfield 192, 3))) ∧ ((decode cX12_wholeCuts 62 = .ok (.iconst 1, 1)) ∧ (decode cX12_wholeCuts 63 = .ok (.iadd, 1)))) ∧ (((decode cX12_wholeCuts 64 = .ok (.putfield 192, 3)) ∧ (decode cX12_wholeCuts 67 = .ok (.iinc 3 2, 3))) ∧ ((decode cX12_wholeCuts 70 = .ok (.goto (-52), 3)) ∧ (decode cX12_wholeCuts 73 = .ok (.return_, 1))))) := by first | decide +kernel | ((repeat' apply And.intro) <;> decide +kernel)
theorem dX12_wholeCuts_42 : decode cX12_wholeCuts 42 = .ok (.iload_n 1, 1) := dB_3_2_40.1.1.1.1
theorem dX12_wholeCuts_43 : decode cX12_wholeCuts 43 = .ok (.if_icmp .ne 7, 3) := dB_3_2_40.1.1.1.2
theorem dX12_wholeCuts_46 : decode cX12_wholeCuts 46 = .ok (.iload_n 3, 1) := dB_3_2_40.1.1.2.1
theorem dX12_wholeCuts_47 : decode cX12_wholeCuts 47 = .ok (.goto 7, 3) := dB_3_2_40.1.1.2.2
theorem dX12_wholeCuts_50 : decode cX12_wholeCuts 50 = .ok (.aload_n 0, 1) := dB_3_2_40.1.2.1.1
theorem dX12_wholeCuts_51 : decode cX12_wholeCuts 51 = .ok (.getfield 201, 3) := dB_3_2_40.1.2.1.2
theorem dX12_wholeCuts_54 : decode cX12_wholeCuts 54 = .ok (.putfield 201, 3) := dB_3_2_40.1.2.2.1
theorem dX12_wholeCuts_57 : decode cX12_wholeCuts 57 = .ok (.aload_n 0, 1) := dB_3_2_40.1.2.2.2
theorem dX12_wholeCuts_58 : decode cX12_wholeCuts 58 = .ok (.dup, 1) := dB_3_2_40.2.1.1.1
theorem dX12_wholeCuts_59 : decode cX12_wholeCuts 59 = .ok (.getfield 192, 3) := dB_3_2_40.2.1.1.2
theorem dX12_wholeCuts_62 : decode cX12_wholeCuts 62 = .ok (.iconst 1, 1) := dB_3_2_40.2.1.2.1
theorem dX12_wholeCuts_63 : decode cX12_wholeCuts 63 = .ok (.iadd, 1) := dB_3_2_40.2.1.2.2
theorem dX12_wholeCuts_64 : decode cX12_wholeCuts 64 = .ok (.putfield 192, 3) := dB_3_2_40.2.2.1.1
theorem dX12_wholeCuts_67 : decode cX12_wholeCuts 67 = .ok (.iinc 3 2, 3) := dB_3_2_40.2.2.1.2
theorem dX12_wholeCuts_70 : decode cX12_wholeCuts 70 = .ok (.goto (-52), 3) := dB_3_2_40.2.2.2.1
theorem dX12_wholeCuts_73 : decode cX12_wholeCuts 73 = .ok (.return_, 1) := dB_3_2_40.2.2.2.2
theorem dB_3_2_41 : ((((decode cX12_cuts 0 = .ok (.aload_n 0, 1)) ∧ (decode cX12_cuts 1 = .ok (.iconst 0, 1))) ∧ ((decode cX12_cuts 2 = .ok (.putfield 85, 3)) ∧ (decode cX12_cuts 5 = .ok (.aload_n 0, 1)))) ∧ (((decode cX12_cuts 6 = .ok (.invokevirtual 225, 3)) ∧ (decode cX12_cuts 9 = .ok (.ifCond .ne 6, 3))) ∧ ((decode cX12_cuts 12 = .ok (.bipush (-2), 2)) ∧ (decode cX12_cuts 14 = .ok (.ireturn, 1))))) ∧ ((((decode cX12_cuts 15 = .ok (.aload_n 0, 1)) ∧ (decode cX12_cuts 16 = .ok (.iconst 0, 1))) ∧ ((decode cX12_cuts 17 = .ok (.invokevirtual 236, 3)) ∧ (decode cX12_cuts 20 = .ok (.aload_n 0, 1)))) ∧ (((decode cX12_cuts 21 = .ok (.getfield 192, 3)) ∧ (decode cX12_cuts 24 = .ok (.ireturn, 1))) ∧ ((decode cX12_cutAt 0 = .ok (.aload_n 0, 1)) ∧ (decode cX12_cutAt 1 = .ok (.iconst 0, 1))))) := by first | decide +kernel | ((repeat' apply And.intro) <;> decide +kernel)
theorem dX12_cuts_0 : decode cX12_cuts 0 = .ok (.aload_n 0, 1) := dB_3_2_41.1.1.1.1
theorem dX12_cuts_1 : decode cX12_cuts 1 = .ok (.iconst 0, 1) := dB_3_2_41.1.1.1.2
theorem dX12_cuts_2 : decode cX12_cuts 2 = .ok (.putfield 85, 3) := dB_3_2_41.1.1.2.1
theorem dX12_cuts_5 : decode cX12_cuts 5 = .ok (.aload_n 0, 1) := dB_3_2_41.1.1.2.2
theorem dX12_cuts_6 : decode cX12_cuts 6 = .ok (.invokevirtual 225, 3) := dB_3_2_41.1.2.1.1
theorem dX12_cuts_9 : decode cX12_cuts 9 = .ok (.ifCond .ne 6, 3) := dB_3_2_41.1.2.1.2
theorem dX12_cuts_12 : decode cX12_cuts 12 = .ok (.bipush (-2), 2) := dB_3_2_41.1.2.2.1
theorem dX12_cuts_14 : decode cX12_cuts 14 = .ok (.ireturn, 1) := dB_3_2_41.1.2.2.2
theorem dX12_cuts_15 : decode cX12_cuts 15 = .ok (.aload_n 0, 1) := dB_3_2_41.2.1.1.1
theorem dX12_cuts_16 : decode cX12_cuts 16 = .ok (.iconst 0, 1) := dB_3_2_41.2.1.1.2
theorem dX12_cuts_17 : decode cX12_cuts 17 = .ok (.invokevirtual 236, 3) := dB_3_2_41.2.1.2.1
theorem dX12_cuts_20 : decode cX12_cuts 20 = .ok (.aload_n 0, 1) := dB_3_2_41.2.1.2.2
theorem dX12_cuts_21 : decode cX12_cuts 21 = .ok (.getfield 192, 3) := dB_3_2_41.2.2.1.1
theorem dX12_cuts_24 : decode cX12_cuts 24 = .ok (.ireturn, 1) := dB_3_2_41.2.2.1.2
theorem dX12_cutAt_0 : decode cX12_cutAt 0 = .ok (.aload_n 0, 1) := dB_3_2_41.2.2.2.1
theorem dX12_cutAt_1 : decode cX12_cutAt 1 = .ok (.iconst 0, 1) := dB_3_2_41.2.2.2.2
theorem dB_3_2_42 : ((((decode cX12_cutAt 2 = .ok (.putfield 85, 3)) ∧ (decode cX12_cutAt 5 = .ok (.iload_n 1, 1))) ∧ ((decode cX12_cutAt 6 = .ok (.ifCond .ge 5, 3)) ∧ (decode cX12_cutAt 9 = .ok (.iconst (-1), 1)))) ∧ (((decode cX12_cutAt 10 = .ok (.ireturn, 1)) ∧ (decode cX12_cutAt 11 = .ok (.aload_n 0, 1))) ∧ ((decode cX12_cutAt 12 = .ok (.invokevirtual 225, 3)) ∧ (decode cX12_cutAt 15 = .ok (.ifCond .ne 6, 3))))) ∧ ((((decode cX12_cutAt 18 = .ok (.bipush (-2), 2)) ∧ (decode cX12_cutAt 20 = .ok (.ireturn, 1))) ∧ ((decode cX12_cutAt 21 = .ok (.aload_n 0, 1)) ∧ (decode cX12_cutAt 22 = .ok (.iload_n 1, 1)))) ∧ (((decode cX12_cutAt 23 = .ok (.invokevirtual 236, 3)) ∧ (decode cX12_cutAt 26 = .ok (.aload_n 0, 1))) ∧ ((decode cX12_cutAt 27 = .ok (.getfield 201, 3)) ∧ (decode cX12_cutAt 30 = .ok (.ireturn, 1))))) := by first | decide +kernel | ((repeat' apply And.intro) <;> decide +kernel)
theorem dX12_cutAt_2 : decode cX12_cutAt 2 = .ok (.putfield 85, 3) := dB_3_2_42.1.1.1.1
theorem dX12_cutAt_5 : decode cX12_cutAt 5 = .ok (.iload_n 1, 1) := dB_3_2_42.1.1.1.2
theorem dX12_cutAt_6 : decode cX12_cutAt 6 = .ok (.ifCond .ge 5, 3) := dB_3_2_42.1.1.2.1
theorem dX12_cutAt_9 : decode cX12_cutAt 9 = .ok (.iconst (-1), 1) := dB_3_2_42.1.1.2.2
theorem dX12_cutAt_10 : decode cX12_cutAt 10 = .ok (.ireturn, 1) := dB_3_2_42.1.2.1.1
theorem dX12_cutAt_11 : decode cX12_cutAt 11 = .ok (.aload_n 0, 1) := dB_3_2_42.1.2.1.2
theorem dX12_cutAt_12 : decode cX12_cutAt 12 = .ok (.invokevirtual 225, 3) := dB_3_2_42.1.2.2.1
theorem dX12_cutAt_15 : decode cX12_cutAt 15 = .ok (.ifCond .ne 6, 3) := dB_3_2_42.1.2.2.2
theorem dX12_cutAt_18 : decode cX12_cutAt 18 = .ok (.bipush (-2), 2) := dB_3_2_42.2.1.1.1
theorem dX12_cutAt_20 : decode cX12_cutAt 20 = .ok (.ireturn, 1) := dB_3_2_42.2.1.1.2
theorem dX12_cutAt_21 : decode cX12_cutAt 21 = .ok (.aload_n 0, 1) := dB_3_2_42.2.1.2.1
theorem dX12_cutAt_22 : decode cX12_cutAt 22 = .ok (.iload_n 1, 1) := dB_3_2_42.2.1.2.2
theorem dX12_cutAt_23 : decode cX12_cutAt 23 = .ok (.invokevirtual 236, 3) := dB_3_2_42.2.2.1.1
theorem dX12_cutAt_26 : decode cX12_cutAt 26 = .ok (.aload_n 0, 1) := dB_3_2_42.2.2.1.2
theorem dX12_cutAt_27 : decode cX12_cutAt 27 = .ok (.getfield 201, 3) := dB_3_2_42.2.2.2.1
theorem dX12_cutAt_30 : decode cX12_cutAt 30 = .ok (.ireturn, 1) := dB_3_2_42.2.2.2.2
theorem dB_3_2_43 : ((((decode cX12_weak 0 = .ok (.aload_n 0, 1)) ∧ (decode cX12_weak 1 = .ok (.iconst 0, 1))) ∧ ((decode cX12_weak 2 = .ok (.putfield 85, 3)) ∧ (decode cX12_weak 5 = .ok (.aload_n 0, 1)))) ∧ (((decode cX12_weak 6 = .ok (.iload_n 1, 1)) ∧ (decode cX12_weak 7 = .ok (.invokevirtual 132, 3))) ∧ ((decode cX12_weak 10 = .ok (.ifCond .ne 5, 3)) ∧ (decode cX12_weak 13 = .ok (.iconst (-1), 1))))) ∧ ((((decode cX12_weak 14 = .ok (.ireturn, 1)) ∧ (decode cX12_weak 15 = .ok (.aload_n 0, 1))) ∧ ((decode cX12_weak 16 = .ok (.invokevirtual 225, 3)) ∧ (decode cX12_weak 19 = .ok (.ifCond .eq 12, 3)))) ∧ (((decode cX12_weak 22 = .ok (.aload_n 0, 1)) ∧ (decode cX12_weak 23 = .ok (.getfield 25, 3))) ∧ ((decode cX12_weak 26 = .ok (.iload_n 1, 1)) ∧ (decode cX12_weak 27 = .ok (.baload, 1))))) := by first | decide +kernel | ((repeat' apply And.intro) <;> decide +kernel)
theorem dX12_weak_0 : decode cX12_weak 0 = .ok (.aload_n 0, 1) := dB_3_2_43.1.1.1.1
theorem dX12_weak_1 : decode cX12_weak 1 = .ok (.iconst 0, 1) := dB_3_2_43.1.1.1.2
theorem dX12_weak_2 : decode cX12_weak 2 = .ok (.putfield 85, 3) := dB_3_2_43.1.1.2.1
theorem dX12_weak_5 : decode cX12_weak 5 = .ok (.aload_n 0, 1) := dB_3_2_43.1.1.2.2
theorem dX12_weak_6 : decode cX12_weak 6 = .ok (.iload_n 1, 1) := dB_3_2_43.1.2.1.1
theorem dX12_weak_7 : decode cX12_weak 7 = .ok (.invokevirtual 132, 3) := dB_3_2_43.1.2.1.2
theorem dX12_weak_10 : decode cX12_weak 10 = .ok (.ifCond .ne 5, 3) := dB_3_2_43.1.2.2.1
theorem dX12_weak_13 : decode cX12_weak 13 = .ok (.iconst (-1), 1) := dB_3_2_43.1.2.2.2
theorem dX12_weak_14 : decode cX12_weak 14 = .ok (.ireturn, 1) := dB_3_2_43.2.1.1.1
theorem dX12_weak_15 : decode cX12_weak 15 = .ok (.aload_n 0, 1) := dB_3_2_43.2.1.1.2
theorem dX12_weak_16 : decode cX12_weak 16 = .ok (.invokevirtual 225, 3) := dB_3_2_43.2.1.2.1
theorem dX12_weak_19 : decode cX12_weak 19 = .ok (.ifCond .eq 12, 3) := dB_3_2_43.2.1.2.2
theorem dX12_weak_22 : decode cX12_weak 22 = .ok (.aload_n 0, 1) := dB_3_2_43.2.2.1.1
theorem dX12_weak_23 : decode cX12_weak 23 = .ok (.getfield 25, 3) := dB_3_2_43.2.2.1.2
theorem dX12_weak_26 : decode cX12_weak 26 = .ok (.iload_n 1, 1) := dB_3_2_43.2.2.2.1
theorem dX12_weak_27 : decode cX12_weak 27 = .ok (.baload, 1) := dB_3_2_43.2.2.2.2
theorem dB_3_2_44 : ((((decode cX12_weak 28 = .ok (.ifCond .eq 6, 3)) ∧ (decode cX12_weak 31 = .ok (.bipush (-2), 2))) ∧ ((decode cX12_weak 33 = .ok (.ireturn, 1)) ∧ (decode cX12_weak 34 = .ok (.aload_n 0, 1)))) ∧ (((decode cX12_weak 35 = .ok (.invokevirtual 232, 3)) ∧ (decode cX12_weak 38 = .ok (.istore_n 2, 1))) ∧ ((decode cX12_weak 39 = .ok (.iconst 2, 1)) ∧ (decode cX12_weak 40 = .ok (.istore_n 3, 1))))) ∧ ((((decode cX12_weak 41 = .ok (.iload_n 3, 1)) ∧ (decode cX12_weak 42 = .ok (.iconst 1, 1))) ∧ ((decode cX12_weak 43 = .ok (.aload_n 0, 1)) ∧ (decode cX12_weak 44 = .ok (.getfield 88, 3)))) ∧ (((decode cX12_weak 47 = .ok (.ishl, 1)) ∧ (decode cX12_weak 48 = .ok (.if_icmp .ge 43, 3))) ∧ ((decode cX12_weak 51 = .ok (.iload_n 3, 1)) ∧ (decode cX12_weak 52 = .ok (.aload_n 0, 1))))) := by first | decide +kernel | ((repeat' apply And.intro) <;> decide +kernel)
theorem dX12_weak_28 : decode cX12_weak 28 = .ok (.ifCond .eq 6, 3) := dB_3_2_44.1.1.1.1
theorem dX12_weak_31 : decode cX12_weak 31 = .ok (.bipush (-2), 2) := dB_3_2_44.1.1.1.2
theorem dX12_weak_33 : decode cX12_weak 33 = .ok (.ireturn, 1) := dB_3_2_44.1.1.2.1
theorem dX12_weak_34 : decode cX12_weak 34 = .ok (.aload_n 0, 1) := dB_3_2_44.1.1.2.2
theorem dX12_weak_35 : decode cX12_weak 35 = .ok (.invokevirtual 232, 3) := dB_3_2_44.1.2.1.1
theorem dX12_weak_38 : decode cX12_weak 38 = .ok (.istore_n 2, 1) := dB_3_2_44.1.2.1.2
theorem dX12_weak_39 : decode cX12_weak 39 = .ok (.iconst 2, 1) := dB_3_2_44.1.2.2.1
theorem dX12_weak_40 : decode cX12_weak 40 = .ok (.istore_n 3, 1) := dB_3_2_44.1.2.2.2
theorem dX12_weak_41 : decode cX12_weak 41 = .ok (.iload_n 3, 1) := dB_3_2_44.2.1.1.1
theorem dX12_weak_42 : decode cX12_weak 42 = .ok (.iconst 1, 1) := dB_3_2_44.2.1.1.2
theorem dX12_weak_43 : decode cX12_weak 43 = .ok (.aload_n 0, 1) := dB_3_2_44.2.1.2.1
theorem dX12_weak_44 : decode cX12_weak 44 = .ok (.getfield 88, 3) := dB_3_2_44.2.1.2.2
theorem dX12_weak_47 : decode cX12_weak 47 = .ok (.ishl, 1) := dB_3_2_44.2.2.1.1
theorem dX12_weak_48 : decode cX12_weak 48 = .ok (.if_icmp .ge 43, 3) := dB_3_2_44.2.2.1.2
theorem dX12_weak_51 : decode cX12_weak 51 = .ok (.iload_n 3, 1) := dB_3_2_44.2.2.2.1
theorem dX12_weak_52 : decode cX12_weak 52 = .ok (.aload_n 0, 1) := dB_3_2_44.2.2.2.2
theorem dB_3_2_45 : ((((decode cX12_weak 53 = .ok (.getfield 13, 3)) ∧ (decode cX12_weak 56 = .ok (.iload_n 1, 1))) ∧ ((decode cX12_weak 57 = .ok (.iaload, 1)) ∧ (decode cX12_weak 58 = .ok (.ishr, 1)))) ∧ (((decode cX12_weak 59 = .ok (.iconst 1, 1)) ∧ (decode cX12_weak 60 = .ok (.iand, 1))) ∧ ((decode cX12_weak 61 = .ok (.iload_n 3, 1)) ∧ (decode cX12_weak 62 = .ok (.aload_n 0, 1))))) ∧ ((((decode cX12_weak 63 = .ok (.getfield 16, 3)) ∧ (decode cX12_weak 66 = .ok (.iload_n 1, 1))) ∧ ((decode cX12_weak 67 = .ok (.iaload, 1)) ∧ (decode cX12_weak 68 = .ok (.ishr, 1)))) ∧ (((decode cX12_weak 69 = .ok (.iconst 1, 1)) ∧ (decode cX12_weak 70 = .ok (.iand, 1))) ∧ ((decode cX12_weak 71 = .ok (.if_icmp .eq 14, 3)) ∧ (decode cX12_weak 74 = .ok (.aload_n 0, 1))))) := by first | decide +kernel | ((repeat' apply And.intro) <;> decide +kernel)
theorem dX12_weak_53 : decode cX12_weak 53 = .ok (.getfield 13, 3) := dB_3_2_45.1.1.1.1
theorem dX12_weak_56 : decode cX12_weak 56 = .ok (.iload_n 1, 1) := dB_3_2_45.1.1.1.2
theorem dX12_weak_57 : decode cX12_weak 57 = .ok (.iaload, 1) := dB_3_2_45.1.1.2.1
theorem dX12_weak_58 : decode cX12_weak 58 = .ok (.ishr, 1) := dB_3_2_45.1.1.2.2
theorem dX12_weak_59 : decode cX12_weak 59 = .ok (.iconst 1, 1) := dB_3_2_45.1.2.1.1
theorem dX12_weak_60 : decode cX12_weak 60 = .ok (.iand, 1) := dB_3_2_45.1.2.1.2
theorem dX12_weak_61 : decode cX12_weak 61 = .ok (.iload_n 3, 1) := dB_3_2_45.1.2.2.1
theorem dX12_weak_62 : decode cX12_weak 62 = .ok (.aload_n 0, 1) := dB_3_2_45.1.2.2.2
theorem dX12_weak_63 : decode cX12_weak 63 = .ok (.getfield 16, 3) := dB_3_2_45.2.1.1.1
theorem dX12_weak_66 : decode cX12_weak 66 = .ok (.iload_n 1, 1) := dB_3_2_45.2.1.1.2
theorem dX12_weak_67 : decode cX12_weak 67 = .ok (.iaload, 1) := dB_3_2_45.2.1.2.1
theorem dX12_weak_68 : decode cX12_weak 68 = .ok (.ishr, 1) := dB_3_2_45.2.1.2.2
theorem dX12_weak_69 : decode cX12_weak 69 = .ok (.iconst 1, 1) := dB_3_2_45.2.2.1.1
theorem dX12_weak_70 : decode cX12_weak 70 = .ok (.iand, 1) := dB_3_2_45.2.2.1.2
theorem dX12_weak_71 : decode cX12_weak 71 = .ok (.if_icmp .eq 14, 3) := dB_3_2_45.2.2.2.1
theorem dX12_weak_74 : decode cX12_weak 74 = .ok (.aload_n 0, 1) := dB_3_2_45.2.2.2.2
theorem dB_3_2_46 : ((((decode cX12_weak 75 = .ok (.iload_n 3, 1)) ∧ (decode cX12_weak 76 = .ok (.invokevirtual 163, 3))) ∧ ((decode cX12_weak 79 = .ok (.iload_n 2, 1)) ∧ (decode cX12_weak 80 = .ok (.if_icmp .ne 5, 3)))) ∧ (((decode cX12_weak 83 = .ok (.iconst 1, 1)) ∧ (decode cX12_weak 84 = .ok (.ireturn, 1))) ∧ ((decode cX12_weak 85 = .ok (.iinc 3 2, 3)) ∧ (decode cX12_weak 88 = .ok (.goto (-47), 3))))) ∧ ((((decode cX12_weak 91 = .ok (.iconst 0, 1)) ∧ (decode cX12_weak 92 = .ok (.ireturn, 1))) ∧ ((decode cX12_part 0 = .ok (.aload_n 0, 1)) ∧ (decode cX12_part 1 = .ok (.iconst 0, 1)))) ∧ (((decode cX12_part 2 = .ok (.putfield 85, 3)) ∧ (decode cX12_part 5 = .ok (.iload_n 1, 1))) ∧ ((decode cX12_part 6 = .ok (.ifCond .ge 5, 3)) ∧ (decode cX12_part 9 = .ok (.iconst (-1), 1))))) := by first | decide +kernel | ((repeat' apply And.intro) <;> decide +kernel)
theorem dX12_weak_75 : decode cX12_weak 75 = .ok (.iload_n 3, 1) := dB_3_2_46.1.1.1.1
theorem dX12_weak_76 : decode cX12_weak 76 = .ok (.invokevirtual 163, 3) := dB_3_2_46.1.1.1.2
theorem dX12_weak_79 : decode cX12_weak 79 = .ok (.iload_n 2, 1) := dB_3_2_46.1.1.2.1
theorem dX12_weak_80 : decode cX12_weak 80 = .ok (.if_icmp .ne 5, 3) := dB_3_2_46.1.1.2.2
theorem dX12_weak_83 : decode cX12_weak 83 = .ok (.iconst 1, 1) := dB_3_2_46.1.2.1.1
theorem dX12_weak_84 : decode cX12_weak 84 = .ok (.ireturn, 1) := dB_3_2_46.1.2.1.2
theorem dX12_weak_85 : decode cX12_weak 85 = .ok (.iinc 3 2, 3) := dB_3_2_46.1.2.2.1
theorem dX12_weak_88 : decode cX12_weak 88 = .ok (.goto (-47), 3) := dB_3_2_46.1.2.2.2
theorem dX12_weak_91 : decode cX12_weak 91 = .ok (.iconst 0, 1) := dB_3_2_46.2.1.1.1
theorem dX12_weak_92 : decode cX12_weak 92 = .ok (.ireturn, 1) := dB_3_2_46.2.1.1.2
theorem dX12_part_0 : decode cX12_part 0 = .ok (.aload_n 0, 1) := dB_3_2_46.2.1.2.1
theorem dX12_part_1 : decode cX12_part 1 = .ok (.iconst 0, 1) := dB_3_2_46.2.1.2.2
theorem dX12_part_2 : decode cX12_part 2 = .ok (.putfield 85, 3) := dB_3_2_46.2.2.1.1
theorem dX12_part_5 : decode cX12_part 5 = .ok (.iload_n 1, 1) := dB_3_2_46.2.2.1.2
theorem dX12_part_6 : decode cX12_part 6 = .ok (.ifCond .ge 5, 3) := dB_3_2_46.2.2.2.1
theorem dX12_part_9 : decode cX12_part 9 = .ok (.iconst (-1), 1) := dB_3_2_46.2.2.2.2
theorem dB_3_2_47 : ((((decode cX12_part 10 = .ok (.ireturn, 1)) ∧ (decode cX12_part 11 = .ok (.aload_n 0, 1))) ∧ ((decode cX12_part 12 = .ok (.invokevirtual 225, 3)) ∧ (decode cX12_part 15 = .ok (.ifCond .ne 6, 3)))) ∧ (((decode cX12_part 18 = .ok (.bipush (-2), 2)) ∧ (decode cX12_part 20 = .ok (.ireturn, 1))) ∧ ((decode cX12_part 21 = .ok (.iload_n 2, 1)) ∧ (decode cX12_part 22 = .ok (.iconst (-1), 1))))) ∧ ((((decode cX12_part 23 = .ok (.if_icmp .eq 13, 3)) ∧ (decode cX12_part 26 = .ok (.aload_n 0, 1))) ∧ ((decode cX12_part 27 = .ok (.iload_n 2, 1)) ∧ (decode cX12_part 28 = .ok (.invokevirtual 98, 3)))) ∧ (((decode cX12_part 31 = .ok (.ifCond .ne 5, 3)) ∧ (decode cX12_part 34 = .ok (.iconst (-1), 1))) ∧ ((decode cX12_part 35 = .ok (.ireturn, 1)) ∧ (decode cX12_part 36 = .ok (.iconst 0, 1))))) := by first | decide +kernel | ((repeat' apply And.intro) <;> decide +kernel)
theorem dX12_part_10 : decode cX12_part 10 = .ok (.ireturn, 1) := dB_3_2_47.1.1.1.1
theorem dX12_part_11 : decode cX12_part 11 = .ok (.aload_n 0, 1) := dB_3_2_47.1.1.1.2
theorem dX12_part_12 : decode cX12_part 12 = .ok (.invokevirtual 225, 3) := dB_3_2_47.1.1.2.1
theorem dX12_part_15 : decode cX12_part 15 = .ok (.ifCond .ne 6, 3) := dB_3_2_47.1.1.2.2
theorem dX12_part_18 : decode cX12_part 18 = .ok (.bipush (-2), 2) := dB_3_2_47.1.2.1.1
theorem dX12_part_20 : decode cX12_part 20 = .ok (.ireturn, 1) := dB_3_2_47.1.2.1.2
theorem dX12_part_21 : decode cX12_part 21 = .ok (.iload_n 2, 1) := dB_3_2_47.1.2.2.1
theorem dX12_part_22 : decode cX12_part 22 = .ok (.iconst (-1), 1) := dB_3_2_47.1.2.2.2
theorem dX12_part_23 : decode cX12_part 23 = .ok (.if_icmp .eq 13, 3) := dB_3_2_47.2.1.1.1
theorem dX12_part_26 : decode cX12_part 26 = .ok (.aload_n 0, 1) := dB_3_2_47.2.1.1.2
theorem dX12_part_27 : decode cX12_part 27 = .ok (.iload_n 2, 1) := dB_3_2_47.2.1.2.1
theorem dX12_part_28 : decode cX12_part 28 = .ok (.invokevirtual 98, 3) := dB_3_2_47.2.1.2.2
theorem dX12_part_31 : decode cX12_part 31 = .ok (.ifCond .ne 5, 3) := dB_3_2_47.2.2.1.1
theorem dX12_part_34 : decode cX12_part 34 = .ok (.iconst (-1), 1) := dB_3_2_47.2.2.1.2
theorem dX12_part_35 : decode cX12_part 35 = .ok (.ireturn, 1) := dB_3_2_47.2.2.2.1
theorem dX12_part_36 : decode cX12_part 36 = .ok (.iconst 0, 1) := dB_3_2_47.2.2.2.2
theorem dB_3_2_48 : ((((decode cX12_part 37 = .ok (.istore_n 3, 1)) ∧ (decode cX12_part 38 = .ok (.bipush (-9), 2))) ∧ ((decode cX12_part 40 = .ok (.istore 4, 2)) ∧ (decode cX12_part 42 = .ok (.iconst 0, 1)))) ∧ (((decode cX12_part 43 = .ok (.istore 5, 2)) ∧ (decode cX12_part 45 = .ok (.iload 5, 2))) ∧ ((decode cX12_part 47 = .ok (.aload_n 0, 1)) ∧ (decode cX12_part 48 = .ok (.getfield 88, 3))))) ∧ ((((decode cX12_part 51 = .ok (.if_icmp .ge 116, 3)) ∧ (decode cX12_part 54 = .ok (.iconst 1, 1))) ∧ ((decode cX12_part 55 = .ok (.istore 6, 2)) ∧ (decode cX12_part 57 = .ok (.iconst 0, 1)))) ∧ (((decode cX12_part 58 = .ok (.istore 7, 2)) ∧ (decode cX12_part 60 = .ok (.iload 7, 2))) ∧ ((decode cX12_part 62 = .ok (.iload 5, 2)) ∧ (decode cX12_part 64 = .ok (.if_icmp .ge 31, 3))))) := by first | decide +kernel | ((repeat' apply And.intro) <;> decide +kernel)
theorem dX12_part_37 : decode cX12_part 37 = .ok (.istore_n 3, 1) := dB_3_2_48.1.1.1.1
theorem dX12_part_38 : decode cX12_part 38 = .ok (.bipush (-9), 2) := dB_3_2_48.1.1.1.2
theorem dX12_part_40 : decode cX12_part 40 = .ok (.istore 4, 2) := dB_3_2_48.1.1.2.1
theorem dX12_part_42 : decode cX12_part 42 = .ok (.iconst 0, 1) := dB_3_2_48.1.1.2.2
theorem dX12_part_43 : decode cX12_part 43 = .ok (.istore 5, 2) := dB_3_2_48.1.2.1.1
theorem dX12_part_45 : decode cX12_part 45 = .ok (.iload 5, 2) := dB_3_2_48.1.2.1.2
theorem dX12_part_47 : decode cX12_part 47 = .ok (.aload_n 0, 1) := dB_3_2_48.1.2.2.1
theorem dX12_part_48 : decode cX12_part 48 = .ok (.getfield 88, 3) := dB_3_2_48.1.2.2.2
theorem dX12_part_51 : decode cX12_part 51 = .ok (.if_icmp .ge 116, 3) := dB_3_2_48.2.1.1.1
theorem dX12_part_54 : decode cX12_part 54 = .ok (.iconst 1, 1) := dB_3_2_48.2.1.1.2
theorem dX12_part_55 : decode cX12_part 55 = .ok (.istore 6, 2) := dB_3_2_48.2.1.2.1
theorem dX12_part_57 : decode cX12_part 57 = .ok (.iconst 0, 1) := dB_3_2_48.2.1.2.2
theorem dX12_part_58 : decode cX12_part 58 = .ok (.istore 7, 2) := dB_3_2_48.2.2.1.1
theorem dX12_part_60 : decode cX12_part 60 = .ok (.iload 7, 2) := dB_3_2_48.2.2.1.2
theorem dX12_part_62 : decode cX12_part 62 = .ok (.iload 5, 2) := dB_3_2_48.2.2.2.1
theorem dX12_part_64 : decode cX12_part 64 = .ok (.if_icmp .ge 31, 3) := dB_3_2_48.2.2.2.2
theorem dB_3_2_49 : ((((decode cX12_part 67 = .ok (.iload 6, 2)) ∧ (decode cX12_part 69 = .ok (.aload_n 0, 1))) ∧ ((decode cX12_part 70 = .ok (.iload 5, 2)) ∧ (decode cX12_part 72 = .ok (.iload 7, 2)))) ∧ (((decode cX12_part 74 = .ok (.invokevirtual 166, 3)) ∧ (decode cX12_part 77 = .ok (.iload_n 1, 1))) ∧ ((decode cX12_part 78 = .ok (.if_icmp .ge 7, 3)) ∧ (decode cX12_part 81 = .ok (.iconst 1, 1))))) ∧ ((((decode cX12_part 82 = .ok (.goto 4, 3)) ∧ (decode cX12_part 85 = .ok (.iconst 0, 1))) ∧ ((decode cX12_part 86 = .ok (.iand, 1)) ∧ (decode cX12_part 87 = .ok (.istore 6, 2)))) ∧ (((decode cX12_part 89 = .ok (.iinc 7 1, 3)) ∧ (decode cX12_part 92 = .ok (.goto (-32), 3))) ∧ ((decode cX12_part 95 = .ok (.iload 5, 2)) ∧ (decode cX12_part 97 = .ok (.iload_n 2, 1))))) := by first | decide +kernel | ((repeat' apply And.intro) <;> decide +kernel)
theorem dX12_part_67 : decode cX12_part 67 = .ok (.iload 6, 2) := dB_3_2_49.1.1.1.1
theorem dX12_part_69 : decode cX12_part 69 = .ok (.aload_n 0, 1) := dB_3_2_49.1.1.1.2
theorem dX12_part_70 : decode cX12_part 70 = .ok (.iload 5, 2) := dB_3_2_49.1.1.2.1
theorem dX12_part_72 : decode cX12_part 72 = .ok (.iload 7, 2) := dB_3_2_49.1.1.2.2
theorem dX12_part_74 : decode cX12_part 74 = .ok (.invokevirtual 166, 3) := dB_3_2_49.1.2.1.1
theorem dX12_part_77 : decode cX12_part 77 = .ok (.iload_n 1, 1) := dB_3_2_49.1.2.1.2
theorem dX12_part_78 : decode cX12_part 78 = .ok (.if_icmp .ge 7, 3) := dB_3_2_49.1.2.2.1
theorem dX12_part_81 : decode cX12_part 81 = .ok (.iconst 1, 1) := dB_3_2_49.1.2.2.2
theorem dX12_part_82 : decode cX12_part 82 = .ok (.goto 4, 3) := dB_3_2_49.2.1.1.1
theorem dX12_part_85 : decode cX12_part 85 = .ok (.iconst 0, 1) := dB_3_2_49.2.1.1.2
theorem dX12_part_86 : decode cX12_part 86 = .ok (.iand, 1) := dB_3_2_49.2.1.2.1
theorem dX12_part_87 : decode cX12_part 87 = .ok (.istore 6, 2) := dB_3_2_49.2.1.2.2
theorem dX12_part_89 : decode cX12_part 89 = .ok (.iinc 7 1, 3) := dB_3_2_49.2.2.1.1
theorem dX12_part_92 : decode cX12_part 92 = .ok (.goto (-32), 3) := dB_3_2_49.2.2.1.2
theorem dX12_part_95 : decode cX12_part 95 = .ok (.iload 5, 2) := dB_3_2_49.2.2.2.1
theorem dX12_part_97 : decode cX12_part 97 = .ok (.iload_n 2, 1) := dB_3_2_49.2.2.2.2
theorem dB_3_2_50 : ((((decode cX12_part 98 = .ok (.if_icmp .eq 18, 3)) ∧ (decode cX12_part 101 = .ok (.iload_n 2, 1))) ∧ ((decode cX12_part 102 = .ok (.ifCond .lt 18, 3)) ∧ (decode cX12_part 105 = .ok (.aload_n 0, 1)))) ∧ (((decode cX12_part 106 = .ok (.iload 5, 2)) ∧ (decode cX12_part 108 = .ok (.iload_n 2, 1))) ∧ ((decode cX12_part 109 = .ok (.invokevirtual 166, 3)) ∧ (decode cX12_part 112 = .ok (.iload_n 1, 1))))) ∧ ((((decode cX12_part 113 = .ok (.if_icmp .lt 7, 3)) ∧ (decode cX12_part 116 = .ok (.iconst 1, 1))) ∧ ((decode cX12_part 117 = .ok (.goto 4, 3)) ∧ (decode cX12_part 120 = .ok (.iconst 0, 1)))) ∧ (((decode cX12_part 121 = .ok (.istore 7, 2)) ∧ (decode cX12_part 123 = .ok (.iload 6, 2))) ∧ ((decode cX12_part 125 = .ok (.ifCond .eq 19, 3)) ∧ (decode cX12_part 128 = .ok (.iload 7, 2))))) := by first | decide +kernel | ((repeat' apply And.intro) <;> decide +kernel)
theorem dX12_part_98 : decode cX12_part 98 = .ok (.if_icmp .eq 18, 3) := dB_3_2_50.1.1.1.1
theorem dX12_part_101 : decode cX12_part 101 = .ok (.iload_n 2, 1) := dB_3_2_50.1.1.1.2
theorem dX12_part_102 : decode cX12_part 102 = .ok (.ifCond .lt 18, 3) := dB_3_2_50.1.1.2.1
theorem dX12_part_105 : decode cX12_part 105 = .ok (.aload_n 0, 1) := dB_3_2_50.1.1.2.2
theorem dX12_part_106 : decode cX12_part 106 = .ok (.iload 5, 2) := dB_3_2_50.1.2.1.1
theorem dX12_part_108 : decode cX12_part 108 = .ok (.iload_n 2, 1) := dB_3_2_50.1.2.1.2
theorem dX12_part_109 : decode cX12_part 109 = .ok (.invokevirtual 166, 3) := dB_3_2_50.1.2.2.1
theorem dX12_part_112 : decode cX12_part 112 = .ok (.iload_n 1, 1) := dB_3_2_50.1.2.2.2
theorem dX12_part_113 : decode cX12_part 113 = .ok (.if_icmp .lt 7, 3) := dB_3_2_50.2.1.1.1
theorem dX12_part_116 : decode cX12_part 116 = .ok (.iconst 1, 1) := dB_3_2_50.2.1.1.2
theorem dX12_part_117 : decode cX12_part 117 = .ok (.goto 4, 3) := dB_3_2_50.2.1.2.1
theorem dX12_part_120 : decode cX12_part 120 = .ok (.iconst 0, 1) := dB_3_2_50.2.1.2.2
theorem dX12_part_121 : decode cX12_part 121 = .ok (.istore 7, 2) := dB_3_2_50.2.2.1.1
theorem dX12_part_123 : decode cX12_part 123 = .ok (.iload 6, 2) := dB_3_2_50.2.2.1.2
theorem dX12_part_125 : decode cX12_part 125 = .ok (.ifCond .eq 19, 3) := dB_3_2_50.2.2.2.1
theorem dX12_part_128 : decode cX12_part 128 = .ok (.iload 7, 2) := dB_3_2_50.2.2.2.2
theorem dB_3_2_51 : ((((decode cX12_part 130 = .ok (.ifCond .eq 14, 3)) ∧ (decode cX12_part 133 = .ok (.iload 4, 2))) ∧ ((decode cX12_part 135 = .ok (.bipush (-9), 2)) ∧ (decode cX12_part 137 = .ok (.if_icmp .ne 7, 3)))) ∧ (((decode cX12_part 140 = .ok (.iload_n 3, 1)) ∧ (decode cX12_part 141 = .ok (.goto 5, 3))) ∧ ((decode cX12_part 144 = .ok (.iload 4, 2)) ∧ (decode cX12_part 146 = .ok (.istore 4, 2))))) ∧ ((((decode cX12_part 148 = .ok (.iload_n 3, 1)) ∧ (decode cX12_part 149 = .ok (.iload 6, 2))) ∧ ((decode cX12_part 151 = .ok (.ifCond .eq 7, 3)) ∧ (decode cX12_part 154 = .ok (.iconst 1, 1)))) ∧ (((decode cX12_part 155 = .ok (.goto 4, 3)) ∧ (decode cX12_part 158 = .ok (.iconst 0, 1))) ∧ ((decode cX12_part 159 = .ok (.iadd, 1)) ∧ (decode cX12_part 160 = .ok (.istore_n 3, 1))))) := by first | decide +kernel | ((repeat' apply And.intro) <;> decide +kernel)
theorem dX12_part_130 : decode cX12_part 130 = .ok (.ifCond .eq 14, 3) := dB_3_2_51.1.1.1.1
theorem dX12_part_133 : decode cX12_part 133 = .ok (.iload 4, 2) := dB_3_2_51.1.1.1.2
theorem dX12_part_135 : decode cX12_part 135 = .ok (.bipush (-9), 2) := dB_3_2_51.1.1.2.1
theorem dX12_part_137 : decode cX12_part 137 = .ok (.if_icmp .ne 7, 3) := dB_3_2_51.1.1.2.2
theorem dX12_part_140 : decode cX12_part 140 = .ok (.iload_n 3, 1) := dB_3_2_51.1.2.1.1
theorem dX12_part_141 : decode cX12_part 141 = .ok (.goto 5, 3) := dB_3_2_51.1.2.1.2
theorem dX12_part_144 : decode cX12_part 144 = .ok (.iload 4, 2) := dB_3_2_51.1.2.2.1
theorem dX12_part_146 : decode cX12_part 146 = .ok (.istore 4, 2) := dB_3_2_51.1.2.2.2
theorem dX12_part_148 : decode cX12_part 148 = .ok (.iload_n 3, 1) := dB_3_2_51.2.1.1.1
theorem dX12_part_149 : decode cX12_part 149 = .ok (.iload 6, 2) := dB_3_2_51.2.1.1.2
theorem dX12_part_151 : decode cX12_part 151 = .ok (.ifCond .eq 7, 3) := dB_3_2_51.2.1.2.1
theorem dX12_part_154 : decode cX12_part 154 = .ok (.iconst 1, 1) := dB_3_2_51.2.1.2.2
theorem dX12_part_155 : decode cX12_part 155 = .ok (.goto 4, 3) := dB_3_2_51.2.2.1.1
theorem dX12_part_158 : decode cX12_part 158 = .ok (.iconst 0, 1) := dB_3_2_51.2.2.1.2
theorem dX12_part_159 : decode cX12_part 159 = .ok (.iadd, 1) := dB_3_2_51.2.2.2.1
theorem dX12_part_160 : decode cX12_part 160 = .ok (.istore_n 3, 1) := dB_3_2_51.2.2.2.2
theorem dB_3_2_52 : ((((decode cX12_part 161 = .ok (.iinc 5 1, 3)) ∧ (decode cX12_part 164 = .ok (.goto (-119), 3))) ∧ ((decode cX12_part 167 = .ok (.iload_n 2, 1)) ∧ (decode cX12_part 168 = .ok (.iconst (-1), 1)))) ∧ (((decode cX12_part 169 = .ok (.if_icmp .ne 7, 3)) ∧ (decode cX12_part 172 = .ok (.iload_n 3, 1))) ∧ ((decode cX12_part 173 = .ok (.goto 5, 3)) ∧ (decode cX12_part 176 = .ok (.iload 4, 2))))) ∧ ((((decode cX12_part 178 = .ok (.ireturn, 1)) ∧ (decode cX12_dense 0 = .ok (.aload_n 0, 1))) ∧ ((decode cX12_dense 1 = .ok (.iconst 0, 1)) ∧ (decode cX12_dense 2 = .ok (.putfield 85, 3)))) ∧ (((decode cX12_dense 5 = .ok (.iload_n 1, 1)) ∧ (decode cX12_dense 6 = .ok (.i2l, 1))) ∧ ((decode cX12_dense 7 = .ok (.lconst 0, 1)) ∧ (decode cX12_dense 8 = .ok (.ldc2_w 149, 3))))) := by first | decide +kernel | ((repeat' apply And.intro) <;> decide +kernel)
theorem dX12_part_161 : decode cX12_part 161 = .ok (.iinc 5 1, 3) := dB_3_2_52.1.1.1.1
theorem dX12_part_164 : decode cX12_part 164 = .ok (.goto (-119), 3) := dB_3_2_52.1.1.1.2
theorem dX12_part_167 : decode cX12_part 167 = .ok (.iload_n 2, 1) := dB_3_2_52.1.1.2.1
theorem dX12_part_168 : decode cX12_part 168 = .ok (.iconst (-1), 1) := dB_3_2_52.1.1.2.2
theorem dX12_part_169 : decode cX12_part 169 = .ok (.if_icmp .ne 7, 3) := dB_3_2_52.1.2.1.1
theorem dX12_part_172 : decode cX12_part 172 = .ok (.iload_n 3, 1) := dB_3_2_52.1.2.1.2
theorem dX12_part_173 : decode cX12_part 173 = .ok (.goto 5, 3) := dB_3_2_52.1.2.2.1
theorem dX12_part_176 : decode cX12_part 176 = .ok (.iload 4, 2) := dB_3_2_52.1.2.2.2
theorem dX12_part_178 : decode cX12_part 178 = .ok (.ireturn, 1) := dB_3_2_52.2.1.1.1
theorem dX12_dense_0 : decode cX12_dense 0 = .ok (.aload_n 0, 1) := dB_3_2_52.2.1.1.2
theorem dX12_dense_1 : decode cX12_dense 1 = .ok (.iconst 0, 1) := dB_3_2_52.2.1.2.1
theorem dX12_dense_2 : decode cX12_dense 2 = .ok (.putfield 85, 3) := dB_3_2_52.2.1.2.2
theorem dX12_dense_5 : decode cX12_dense 5 = .ok (.iload_n 1, 1) := dB_3_2_52.2.2.1.1
theorem dX12_dense_6 : decode cX12_dense 6 = .ok (.i2l, 1) := dB_3_2_52.2.2.1.2
theorem dX12_dense_7 : decode cX12_dense 7 = .ok (.lconst 0, 1) := dB_3_2_52.2.2.2.1
theorem dX12_dense_8 : decode cX12_dense 8 = .ok (.ldc2_w 149, 3) := dB_3_2_52.2.2.2.2
theorem dB_3_2_53 : ((((decode cX12_dense 11 = .ok (.invokestatic 91, 3)) ∧ (decode cX12_dense 14 = .ok (.ifCond .ne 5, 3))) ∧ ((decode cX12_dense 17 = .ok (.iconst (-1), 1)) ∧ (decode cX12_dense 18 = .ok (.ireturn, 1)))) ∧ (((decode cX12_dense 19 = .ok (.aload_n 0, 1)) ∧ (decode cX12_dense 20 = .ok (.invokevirtual 225, 3))) ∧ ((decode cX12_dense 23 = .ok (.ifCond .ne 6, 3)) ∧ (decode cX12_dense 26 = .ok (.bipush (-2), 2))))) ∧ ((((decode cX12_dense 28 = .ok (.ireturn, 1)) ∧ (decode cX12_dense 29 = .ok (.iconst 0, 1))) ∧ ((decode cX12_dense 30 = .ok (.istore_n 2, 1)) ∧ (decode cX12_dense 31 = .ok (.iconst 0, 1)))) ∧ (((decode cX12_dense 32 = .ok (.istore_n 3, 1)) ∧ (decode cX12_dense 33 = .ok (.iconst 1, 1))) ∧ ((decode cX12_dense 34 = .ok (.istore 4, 2)) ∧ (decode cX12_dense 36 = .ok (.iload 4, 2))))) := by first | decide +kernel | ((repeat' apply And.intro) <;> decide +kernel)
theorem dX12_dense_11 : decode cX12_dense 11 = .ok (.invokestatic 91, 3) := dB_3_2_53.1.1.1.1
theorem dX12_dense_14 : decode cX12_dense 14 = .ok (.ifCond .ne 5, 3) := dB_3_2_53.1.1.1.2
theorem dX12_dense_17 : decode cX12_dense 17 = .ok (.iconst (-1), 1) := dB_3_2_53.1.1.2.1
theorem dX12_dense_18 : decode cX12_dense 18 = .ok (.ireturn, 1) := dB_3_2_53.1.1.2.2
theorem dX12_dense_19 : decode cX12_dense 19 = .ok (.aload_n 0, 1) := dB_3_2_53.1.2.1.1
theorem dX12_dense_20 : decode cX12_dense 20 = .ok (.invokevirtual 225, 3) := dB_3_2_53.1.2.1.2
theorem dX12_dense_23 : decode cX12_dense 23 = .ok (.ifCond .ne 6, 3) := dB_3_2_53.1.2.2.1
theorem dX12_dense_26 : decode cX12_dense 26 = .ok (.bipush (-2), 2) := dB_3_2_53.1.2.2.2
theorem dX12_dense_28 : decode cX12_dense 28 = .ok (.ireturn, 1) := dB_3_2_53.2.1.1.1
theorem dX12_dense_29 : decode cX12_dense 29 = .ok (.iconst 0, 1) := dB_3_2_53.2.1.1.2
theorem dX12_dense_30 : decode cX12_dense 30 = .ok (.istore_n 2, 1) := dB_3_2_53.2.1.2.1
theorem dX12_dense_31 : decode cX12_dense 31 = .ok (.iconst 0, 1) := dB_3_2_53.2.1.2.2
theorem dX12_dense_32 : decode cX12_dense 32 = .ok (.istore_n 3, 1) := dB_3_2_53.2.2.1.1
theorem dX12_dense_33 : decode cX12_dense 33 = .ok (.iconst 1, 1) := dB_3_2_53.2.2.1.2
theorem dX12_dense_34 : decode cX12_dense 34 = .ok (.istore 4, 2) := dB_3_2_53.2.2.2.1
theorem dX12_dense_36 : decode cX12_dense 36 = .ok (.iload 4, 2) := dB_3_2_53.2.2.2.2
theorem dB_3_2_54 : ((((decode cX12_dense 38 = .ok (.iconst 1, 1)) ∧ (decode cX12_dense 39 = .ok (.aload_n 0, 1))) ∧ ((decode cX12_dense 40 = .ok (.getfield 88, 3)) ∧ (decode cX12_dense 43 = .ok (.ishl, 1)))) ∧ (((decode cX12_dense 44 = .ok (.if_icmp .ge 145, 3)) ∧ (decode cX12_dense 47 = .ok (.iconst 0, 1))) ∧ ((decode cX12_dense 48 = .ok (.istore 5, 2)) ∧ (decode cX12_dense 50 = .ok (.iconst 0, 1))))) ∧ ((((decode cX12_dense 51 = .ok (.istore 6, 2)) ∧ (decode cX12_dense 53 = .ok (.iload 6, 2))) ∧ ((decode cX12_dense 55 = .ok (.aload_n 0, 1)) ∧ (decode cX12_dense 56 = .ok (.getfield 95, 3)))) ∧ (((decode cX12_dense 59 = .ok (.if_icmp .ge 67, 3)) ∧ (decode cX12_dense 62 = .ok (.iload 5, 2))) ∧ ((decode cX12_dense 64 = .ok (.aload_n 0, 1)) ∧ (decode cX12_dense 65 = .ok (.getfield 25, 3))))) := by first | decide +kernel | ((repeat' apply And.intro) <;> decide +kernel)
theorem dX12_dense_38 : decode cX12_dense 38 = .ok (.iconst 1, 1) := dB_3_2_54.1.1.1.1
theorem dX12_dense_39 : decode cX12_dense 39 = .ok (.aload_n 0, 1) := dB_3_2_54.1.1.1.2
theorem dX12_dense_40 : decode cX12_dense 40 = .ok (.getfield 88, 3) := dB_3_2_54.1.1.2.1
theorem dX12_dense_43 : decode cX12_dense 43 = .ok (.ishl, 1) := dB_3_2_54.1.1.2.2
theorem dX12_dense_44 : decode cX12_dense 44 = .ok (.if_icmp .ge 145, 3) := dB_3_2_54.1.2.1.1
theorem dX12_dense_47 : decode cX12_dense 47 = .ok (.iconst 0, 1) := dB_3_2_54.1.2.1.2
theorem dX12_dense_48 : decode cX12_dense 48 = .ok (.istore 5, 2) := dB_3_2_54.1.2.2.1
theorem dX12_dense_50 : decode cX12_dense 50 = .ok (.iconst 0, 1) := dB_3_2_54.1.2.2.2
theorem dX12_dense_51 : decode cX12_dense 51 = .ok (.istore 6, 2) := dB_3_2_54.2.1.1.1
theorem dX12_dense_53 : decode cX12_dense 53 = .ok (.iload 6, 2) := dB_3_2_54.2.1.1.2
theorem dX12_dense_55 : decode cX12_dense 55 = .ok (.aload_n 0, 1) := dB_3_2_54.2.1.2.1
theorem dX12_dense_56 : decode cX12_dense 56 = .ok (.getfield 95, 3) := dB_3_2_54.2.1.2.2
theorem dX12_dense_59 : decode cX12_dense 59 = .ok (.if_icmp .ge 67, 3) := dB_3_2_54.2.2.1.1
theorem dX12_dense_62 : decode cX12_dense 62 = .ok (.iload 5, 2) := dB_3_2_54.2.2.1.2
theorem dX12_dense_64 : decode cX12_dense 64 = .ok (.aload_n 0, 1) := dB_3_2_54.2.2.2.1
theorem dX12_dense_65 : decode cX12_dense 65 = .ok (.getfield 25, 3) := dB_3_2_54.2.2.2.2
theorem dB_3_2_55 : ((((decode cX12_dense 68 = .ok (.iload 6, 2)) ∧ (decode cX12_dense 70 = .ok (.baload, 1))) ∧ ((decode cX12_dense 71 = .ok (.ifCond .ne 45, 3)) ∧ (decode cX12_dense 74 = .ok (.iload 4, 2)))) ∧ (((decode cX12_dense 76 = .ok (.aload_n 0, 1)) ∧ (decode cX12_dense 77 = .ok (.getfield 13, 3))) ∧ ((decode cX12_dense 80 = .ok (.iload 6, 2)) ∧ (decode cX12_dense 82 = .ok (.iaload, 1))))) ∧ ((((decode cX12_dense 83 = .ok (.ishr, 1)) ∧ (decode cX12_dense 84 = .ok (.iconst 1, 1))) ∧ ((decode cX12_dense 85 = .ok (.iand, 1)) ∧ (decode cX12_dense 86 = .ok (.iconst 1, 1)))) ∧ (((decode cX12_dense 87 = .ok (.if_icmp .ne 29, 3)) ∧ (decode cX12_dense 90 = .ok (.iload 4, 2))) ∧ ((decode cX12_dense 92 = .ok (.aload_n 0, 1)) ∧ (decode cX12_dense 93 = .ok (.getfield 16, 3))))) := by first | decide +kernel | ((repeat' apply And.intro) <;> decide +kernel)
theorem dX12_dense_68 : decode cX12_dense 68 = .ok (.iload 6, 2) := dB_3_2_55.1.1.1.1
theorem dX12_dense_70 : decode cX12_dense 70 = .ok (.baload, 1) := dB_3_2_55.1.1.1.2
theorem dX12_dense_71 : decode cX12_dense 71 = .ok (.ifCond .ne 45, 3) := dB_3_2_55.1.1.2.1
theorem dX12_dense_74 : decode cX12_dense 74 = .ok (.iload 4, 2) := dB_3_2_55.1.1.2.2
theorem dX12_dense_76 : decode cX12_dense 76 = .ok (.aload_n 0, 1) := dB_3_2_55.1.2.1.1
theorem dX12_dense_77 : decode cX12_dense 77 = .ok (.getfield 13, 3) := dB_3_2_55.1.2.1.2
theorem dX12_dense_80 : decode cX12_dense 80 = .ok (.iload 6, 2) := dB_3_2_55.1.2.2.1
theorem dX12_dense_82 : decode cX12_dense 82 = .ok (.iaload, 1) := dB_3_2_55.1.2.2.2
theorem dX12_dense_83 : decode cX12_dense 83 = .ok (.ishr, 1) := dB_3_2_55.2.1.1.1
theorem dX12_dense_84 : decode cX12_dense 84 = .ok (.iconst 1, 1) := dB_3_2_55.2.1.1.2
theorem dX12_dense_85 : decode cX12_dense 85 = .ok (.iand, 1) := dB_3_2_55.2.1.2.1
theorem dX12_dense_86 : decode cX12_dense 86 = .ok (.iconst 1, 1) := dB_3_2_55.2.1.2.2
theorem dX12_dense_87 : decode cX12_dense 87 = .ok (.if_icmp .ne 29, 3) := dB_3_2_55.2.2.1.1
theorem dX12_dense_90 : decode cX12_dense 90 = .ok (.iload 4, 2) := dB_3_2_55.2.2.1.2
theorem dX12_dense_92 : decode cX12_dense 92 = .ok (.aload_n 0, 1) := dB_3_2_55.2.2.2.1
theorem dX12_dense_93 : decode cX12_dense 93 = .ok (.getfield 16, 3) := dB_3_2_55.2.2.2.2
theorem dB_3_2_56 : ((decode cX12_dense 96 = .ok (.iload 6, 2)) ∧ (decode cX12_dense 98 = .ok (.iaload, 1))) ∧ ((decode cX12_dense 99 = .ok (.ishr, 1)) ∧ (decode cX12_dense 100 = .ok (.iconst 1, 1))) := by first | decide +kernel | ((repeat' apply And.intro) <;> decide +kernel)
theorem dX12_dense_96 : decode cX12_dense 96 = .ok (.iload 6, 2) := dB_3_2_56.1.1
theorem dX12_dense_98 : decode cX12_dense 98 = .ok (.iaload, 1) := dB_3_2_56.1.2
theorem dX12_dense_99 : decode cX12_dense 99 = .ok (.ishr, 1) := dB_3_2_56.2.1
theorem dX12_dense_100 : decode cX12_dense 100 = .ok (.iconst 1, 1) := dB_3_2_56.2.2
