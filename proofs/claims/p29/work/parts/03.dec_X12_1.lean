theorem dB_3_1_0 : ((((decode cX12_told 98 = .ok (.aload_n 0, 1)) ∧ (decode cX12_told 99 = .ok (.getfield 19, 3))) ∧ ((decode cX12_told 102 = .ok (.iload_n 1, 1)) ∧ (decode cX12_told 103 = .ok (.iaload, 1)))) ∧ (((decode cX12_told 104 = .ok (.goto 26, 3)) ∧ (decode cX12_told 107 = .ok (.iload_n 2, 1))) ∧ ((decode cX12_told 108 = .ok (.iconst 4, 1)) ∧ (decode cX12_told 109 = .ok (.if_icmp .ne 12, 3))))) ∧ ((((decode cX12_told 112 = .ok (.aload_n 0, 1)) ∧ (decode cX12_told 113 = .ok (.getfield 22, 3))) ∧ ((decode cX12_told 116 = .ok (.iload_n 1, 1)) ∧ (decode cX12_told 117 = .ok (.iaload, 1)))) ∧ (((decode cX12_told 118 = .ok (.goto 12, 3)) ∧ (decode cX12_told 121 = .ok (.iload_n 3, 1))) ∧ ((decode cX12_told 122 = .ok (.ifCond .eq 7, 3)) ∧ (decode cX12_told 125 = .ok (.iconst 1, 1))))) := by first | decide +kernel | ((repeat' apply And.intro) <;> decide +kernel)
theorem dX12_told_98 : decode cX12_told 98 = .ok (.aload_n 0, 1) := dB_3_1_0.1.1.1.1
theorem dX12_told_99 : decode cX12_told 99 = .ok (.getfield 19, 3) := dB_3_1_0.1.1.1.2
theorem dX12_told_102 : decode cX12_told 102 = .ok (.iload_n 1, 1) := dB_3_1_0.1.1.2.1
theorem dX12_told_103 : decode cX12_told 103 = .ok (.iaload, 1) := dB_3_1_0.1.1.2.2
theorem dX12_told_104 : decode cX12_told 104 = .ok (.goto 26, 3) := dB_3_1_0.1.2.1.1
theorem dX12_told_107 : decode cX12_told 107 = .ok (.iload_n 2, 1) := dB_3_1_0.1.2.1.2
theorem dX12_told_108 : decode cX12_told 108 = .ok (.iconst 4, 1) := dB_3_1_0.1.2.2.1
theorem dX12_told_109 : decode cX12_told 109 = .ok (.if_icmp .ne 12, 3) := dB_3_1_0.1.2.2.2
theorem dX12_told_112 : decode cX12_told 112 = .ok (.aload_n 0, 1) := dB_3_1_0.2.1.1.1
theorem dX12_told_113 : decode cX12_told 113 = .ok (.getfield 22, 3) := dB_3_1_0.2.1.1.2
theorem dX12_told_116 : decode cX12_told 116 = .ok (.iload_n 1, 1) := dB_3_1_0.2.1.2.1
theorem dX12_told_117 : decode cX12_told 117 = .ok (.iaload, 1) := dB_3_1_0.2.1.2.2
theorem dX12_told_118 : decode cX12_told 118 = .ok (.goto 12, 3) := dB_3_1_0.2.2.1.1
theorem dX12_told_121 : decode cX12_told 121 = .ok (.iload_n 3, 1) := dB_3_1_0.2.2.1.2
theorem dX12_told_122 : decode cX12_told 122 = .ok (.ifCond .eq 7, 3) := dB_3_1_0.2.2.2.1
theorem dX12_told_125 : decode cX12_told 125 = .ok (.iconst 1, 1) := dB_3_1_0.2.2.2.2
theorem dB_3_1_1 : ((((decode cX12_told 126 = .ok (.goto 4, 3)) ∧ (decode cX12_told 129 = .ok (.iconst 0, 1))) ∧ ((decode cX12_told 130 = .ok (.ireturn, 1)) ∧ (decode cX12_lets 0 = .ok (.aload_n 0, 1)))) ∧ (((decode cX12_lets 1 = .ok (.getfield 7, 3)) ∧ (decode cX12_lets 4 = .ok (.iload_n 1, 1))) ∧ ((decode cX12_lets 5 = .ok (.iaload, 1)) ∧ (decode cX12_lets 6 = .ok (.iconst 2, 1))))) ∧ ((((decode cX12_lets 7 = .ok (.if_icmp .ne 8, 3)) ∧ (decode cX12_lets 10 = .ok (.bipush (-5), 2))) ∧ ((decode cX12_lets 12 = .ok (.goto 27, 3)) ∧ (decode cX12_lets 15 = .ok (.aload_n 0, 1)))) ∧ (((decode cX12_lets 16 = .ok (.getfield 7, 3)) ∧ (decode cX12_lets 19 = .ok (.iload_n 1, 1))) ∧ ((decode cX12_lets 20 = .ok (.iaload, 1)) ∧ (decode cX12_lets 21 = .ok (.iconst 1, 1))))) := by first | decide +kernel | ((repeat' apply And.intro) <;> decide +kernel)
theorem dX12_told_126 : decode cX12_told 126 = .ok (.goto 4, 3) := dB_3_1_1.1.1.1.1
theorem dX12_told_129 : decode cX12_told 129 = .ok (.iconst 0, 1) := dB_3_1_1.1.1.1.2
theorem dX12_told_130 : decode cX12_told 130 = .ok (.ireturn, 1) := dB_3_1_1.1.1.2.1
theorem dX12_lets_0 : decode cX12_lets 0 = .ok (.aload_n 0, 1) := dB_3_1_1.1.1.2.2
theorem dX12_lets_1 : decode cX12_lets 1 = .ok (.getfield 7, 3) := dB_3_1_1.1.2.1.1
theorem dX12_lets_4 : decode cX12_lets 4 = .ok (.iload_n 1, 1) := dB_3_1_1.1.2.1.2
theorem dX12_lets_5 : decode cX12_lets 5 = .ok (.iaload, 1) := dB_3_1_1.1.2.2.1
theorem dX12_lets_6 : decode cX12_lets 6 = .ok (.iconst 2, 1) := dB_3_1_1.1.2.2.2
theorem dX12_lets_7 : decode cX12_lets 7 = .ok (.if_icmp .ne 8, 3) := dB_3_1_1.2.1.1.1
theorem dX12_lets_10 : decode cX12_lets 10 = .ok (.bipush (-5), 2) := dB_3_1_1.2.1.1.2
theorem dX12_lets_12 : decode cX12_lets 12 = .ok (.goto 27, 3) := dB_3_1_1.2.1.2.1
theorem dX12_lets_15 : decode cX12_lets 15 = .ok (.aload_n 0, 1) := dB_3_1_1.2.1.2.2
theorem dX12_lets_16 : decode cX12_lets 16 = .ok (.getfield 7, 3) := dB_3_1_1.2.2.1.1
theorem dX12_lets_19 : decode cX12_lets 19 = .ok (.iload_n 1, 1) := dB_3_1_1.2.2.1.2
theorem dX12_lets_20 : decode cX12_lets 20 = .ok (.iaload, 1) := dB_3_1_1.2.2.2.1
theorem dX12_lets_21 : decode cX12_lets 21 = .ok (.iconst 1, 1) := dB_3_1_1.2.2.2.2
theorem dB_3_1_2 : ((((decode cX12_lets 22 = .ok (.if_icmp .ne 11, 3)) ∧ (decode cX12_lets 25 = .ok (.iload_n 2, 1))) ∧ ((decode cX12_lets 26 = .ok (.ifCond .ne 7, 3)) ∧ (decode cX12_lets 29 = .ok (.iconst 0, 1)))) ∧ (((decode cX12_lets 30 = .ok (.goto 9, 3)) ∧ (decode cX12_lets 33 = .ok (.aload_n 0, 1))) ∧ ((decode cX12_lets 34 = .ok (.getfield 19, 3)) ∧ (decode cX12_lets 37 = .ok (.iload_n 1, 1))))) ∧ ((((decode cX12_lets 38 = .ok (.iaload, 1)) ∧ (decode cX12_lets 39 = .ok (.ireturn, 1))) ∧ ((decode cX12_ask 0 = .ok (.aload_n 0, 1)) ∧ (decode cX12_ask 1 = .ok (.iconst 0, 1)))) ∧ (((decode cX12_ask 2 = .ok (.putfield 85, 3)) ∧ (decode cX12_ask 5 = .ok (.aload_n 0, 1))) ∧ ((decode cX12_ask 6 = .ok (.iload_n 1, 1)) ∧ (decode cX12_ask 7 = .ok (.invokevirtual 132, 3))))) := by first | decide +kernel | ((repeat' apply And.intro) <;> decide +kernel)
theorem dX12_lets_22 : decode cX12_lets 22 = .ok (.if_icmp .ne 11, 3) := dB_3_1_2.1.1.1.1
theorem dX12_lets_25 : decode cX12_lets 25 = .ok (.iload_n 2, 1) := dB_3_1_2.1.1.1.2
theorem dX12_lets_26 : decode cX12_lets 26 = .ok (.ifCond .ne 7, 3) := dB_3_1_2.1.1.2.1
theorem dX12_lets_29 : decode cX12_lets 29 = .ok (.iconst 0, 1) := dB_3_1_2.1.1.2.2
theorem dX12_lets_30 : decode cX12_lets 30 = .ok (.goto 9, 3) := dB_3_1_2.1.2.1.1
theorem dX12_lets_33 : decode cX12_lets 33 = .ok (.aload_n 0, 1) := dB_3_1_2.1.2.1.2
theorem dX12_lets_34 : decode cX12_lets 34 = .ok (.getfield 19, 3) := dB_3_1_2.1.2.2.1
theorem dX12_lets_37 : decode cX12_lets 37 = .ok (.iload_n 1, 1) := dB_3_1_2.1.2.2.2
theorem dX12_lets_38 : decode cX12_lets 38 = .ok (.iaload, 1) := dB_3_1_2.2.1.1.1
theorem dX12_lets_39 : decode cX12_lets 39 = .ok (.ireturn, 1) := dB_3_1_2.2.1.1.2
theorem dX12_ask_0 : decode cX12_ask 0 = .ok (.aload_n 0, 1) := dB_3_1_2.2.1.2.1
theorem dX12_ask_1 : decode cX12_ask 1 = .ok (.iconst 0, 1) := dB_3_1_2.2.1.2.2
theorem dX12_ask_2 : decode cX12_ask 2 = .ok (.putfield 85, 3) := dB_3_1_2.2.2.1.1
theorem dX12_ask_5 : decode cX12_ask 5 = .ok (.aload_n 0, 1) := dB_3_1_2.2.2.1.2
theorem dX12_ask_6 : decode cX12_ask 6 = .ok (.iload_n 1, 1) := dB_3_1_2.2.2.2.1
theorem dX12_ask_7 : decode cX12_ask 7 = .ok (.invokevirtual 132, 3) := dB_3_1_2.2.2.2.2
theorem dB_3_1_3 : ((((decode cX12_ask 10 = .ok (.ifCond .eq 15, 3)) ∧ (decode cX12_ask 13 = .ok (.iload_n 2, 1))) ∧ ((decode cX12_ask 14 = .ok (.i2l, 1)) ∧ (decode cX12_ask 15 = .ok (.lconst 0, 1)))) ∧ (((decode cX12_ask 16 = .ok (.ldc2_w 149, 3)) ∧ (decode cX12_ask 19 = .ok (.invokestatic 91, 3))) ∧ ((decode cX12_ask 22 = .ok (.ifCond .ne 5, 3)) ∧ (decode cX12_ask 25 = .ok (.iconst (-1), 1))))) ∧ ((((decode cX12_ask 26 = .ok (.ireturn, 1)) ∧ (decode cX12_ask 27 = .ok (.iload_n 2, 1))) ∧ ((decode cX12_ask 28 = .ok (.iconst 2, 1)) ∧ (decode cX12_ask 29 = .ok (.if_icmp .ne 23, 3)))) ∧ (((decode cX12_ask 32 = .ok (.aload_n 0, 1)) ∧ (decode cX12_ask 33 = .ok (.dup, 1))) ∧ ((decode cX12_ask 34 = .ok (.getfield 114, 3)) ∧ (decode cX12_ask 37 = .ok (.aload_n 0, 1))))) := by first | decide +kernel | ((repeat' apply And.intro) <;> decide +kernel)
theorem dX12_ask_10 : decode cX12_ask 10 = .ok (.ifCond .eq 15, 3) := dB_3_1_3.1.1.1.1
theorem dX12_ask_13 : decode cX12_ask 13 = .ok (.iload_n 2, 1) := dB_3_1_3.1.1.1.2
theorem dX12_ask_14 : decode cX12_ask 14 = .ok (.i2l, 1) := dB_3_1_3.1.1.2.1
theorem dX12_ask_15 : decode cX12_ask 15 = .ok (.lconst 0, 1) := dB_3_1_3.1.1.2.2
theorem dX12_ask_16 : decode cX12_ask 16 = .ok (.ldc2_w 149, 3) := dB_3_1_3.1.2.1.1
theorem dX12_ask_19 : decode cX12_ask 19 = .ok (.invokestatic 91, 3) := dB_3_1_3.1.2.1.2
theorem dX12_ask_22 : decode cX12_ask 22 = .ok (.ifCond .ne 5, 3) := dB_3_1_3.1.2.2.1
theorem dX12_ask_25 : decode cX12_ask 25 = .ok (.iconst (-1), 1) := dB_3_1_3.1.2.2.2
theorem dX12_ask_26 : decode cX12_ask 26 = .ok (.ireturn, 1) := dB_3_1_3.2.1.1.1
theorem dX12_ask_27 : decode cX12_ask 27 = .ok (.iload_n 2, 1) := dB_3_1_3.2.1.1.2
theorem dX12_ask_28 : decode cX12_ask 28 = .ok (.iconst 2, 1) := dB_3_1_3.2.1.2.1
theorem dX12_ask_29 : decode cX12_ask 29 = .ok (.if_icmp .ne 23, 3) := dB_3_1_3.2.1.2.2
theorem dX12_ask_32 : decode cX12_ask 32 = .ok (.aload_n 0, 1) := dB_3_1_3.2.2.1.1
theorem dX12_ask_33 : decode cX12_ask 33 = .ok (.dup, 1) := dB_3_1_3.2.2.1.2
theorem dX12_ask_34 : decode cX12_ask 34 = .ok (.getfield 114, 3) := dB_3_1_3.2.2.2.1
theorem dX12_ask_37 : decode cX12_ask 37 = .ok (.aload_n 0, 1) := dB_3_1_3.2.2.2.2
theorem dB_3_1_4 : ((((decode cX12_ask 38 = .ok (.iload_n 1, 1)) ∧ (decode cX12_ask 39 = .ok (.invokevirtual 139, 3))) ∧ ((decode cX12_ask 42 = .ok (.ladd, 1)) ∧ (decode cX12_ask 43 = .ok (.putfield 114, 3)))) ∧ (((decode cX12_ask 46 = .ok (.aload_n 0, 1)) ∧ (decode cX12_ask 47 = .ok (.iload_n 1, 1))) ∧ ((decode cX12_ask 48 = .ok (.invokevirtual 135, 3)) ∧ (decode cX12_ask 51 = .ok (.ireturn, 1))))) ∧ ((((decode cX12_ask 52 = .ok (.iload_n 2, 1)) ∧ (decode cX12_ask 53 = .ok (.ifCond .ne 7, 3))) ∧ ((decode cX12_ask 56 = .ok (.iconst 1, 1)) ∧ (decode cX12_ask 57 = .ok (.goto 4, 3)))) ∧ (((decode cX12_ask 60 = .ok (.iconst 0, 1)) ∧ (decode cX12_ask 61 = .ok (.istore_n 3, 1))) ∧ ((decode cX12_ask 62 = .ok (.aload_n 0, 1)) ∧ (decode cX12_ask 63 = .ok (.dup, 1))))) := by first | decide +kernel | ((repeat' apply And.intro) <;> decide +kernel)
theorem dX12_ask_38 : decode cX12_ask 38 = .ok (.iload_n 1, 1) := dB_3_1_4.1.1.1.1
theorem dX12_ask_39 : decode cX12_ask 39 = .ok (.invokevirtual 139, 3) := dB_3_1_4.1.1.1.2
theorem dX12_ask_42 : decode cX12_ask 42 = .ok (.ladd, 1) := dB_3_1_4.1.1.2.1
theorem dX12_ask_43 : decode cX12_ask 43 = .ok (.putfield 114, 3) := dB_3_1_4.1.1.2.2
theorem dX12_ask_46 : decode cX12_ask 46 = .ok (.aload_n 0, 1) := dB_3_1_4.1.2.1.1
theorem dX12_ask_47 : decode cX12_ask 47 = .ok (.iload_n 1, 1) := dB_3_1_4.1.2.1.2
theorem dX12_ask_48 : decode cX12_ask 48 = .ok (.invokevirtual 135, 3) := dB_3_1_4.1.2.2.1
theorem dX12_ask_51 : decode cX12_ask 51 = .ok (.ireturn, 1) := dB_3_1_4.1.2.2.2
theorem dX12_ask_52 : decode cX12_ask 52 = .ok (.iload_n 2, 1) := dB_3_1_4.2.1.1.1
theorem dX12_ask_53 : decode cX12_ask 53 = .ok (.ifCond .ne 7, 3) := dB_3_1_4.2.1.1.2
theorem dX12_ask_56 : decode cX12_ask 56 = .ok (.iconst 1, 1) := dB_3_1_4.2.1.2.1
theorem dX12_ask_57 : decode cX12_ask 57 = .ok (.goto 4, 3) := dB_3_1_4.2.1.2.2
theorem dX12_ask_60 : decode cX12_ask 60 = .ok (.iconst 0, 1) := dB_3_1_4.2.2.1.1
theorem dX12_ask_61 : decode cX12_ask 61 = .ok (.istore_n 3, 1) := dB_3_1_4.2.2.1.2
theorem dX12_ask_62 : decode cX12_ask 62 = .ok (.aload_n 0, 1) := dB_3_1_4.2.2.2.1
theorem dX12_ask_63 : decode cX12_ask 63 = .ok (.dup, 1) := dB_3_1_4.2.2.2.2
theorem dB_3_1_5 : ((((decode cX12_ask 64 = .ok (.getfield 114, 3)) ∧ (decode cX12_ask 67 = .ok (.aload_n 0, 1))) ∧ ((decode cX12_ask 68 = .ok (.getfield 7, 3)) ∧ (decode cX12_ask 71 = .ok (.iload_n 1, 1)))) ∧ (((decode cX12_ask 72 = .ok (.iaload, 1)) ∧ (decode cX12_ask 73 = .ok (.iconst 2, 1))) ∧ ((decode cX12_ask 74 = .ok (.if_icmp .ne 9, 3)) ∧ (decode cX12_ask 77 = .ok (.ldc2_w 112, 3))))) ∧ ((((decode cX12_ask 80 = .ok (.goto 30, 3)) ∧ (decode cX12_ask 83 = .ok (.aload_n 0, 1))) ∧ ((decode cX12_ask 84 = .ok (.getfield 7, 3)) ∧ (decode cX12_ask 87 = .ok (.iload_n 1, 1)))) ∧ (((decode cX12_ask 88 = .ok (.iaload, 1)) ∧ (decode cX12_ask 89 = .ok (.iconst 1, 1))) ∧ ((decode cX12_ask 90 = .ok (.if_icmp .ne 19, 3)) ∧ (decode cX12_ask 93 = .ok (.iload_n 3, 1))))) := by first | decide +kernel | ((repeat' apply And.intro) <;> decide +kernel)
theorem dX12_ask_64 : decode cX12_ask 64 = .ok (.getfield 114, 3) := dB_3_1_5.1.1.1.1
theorem dX12_ask_67 : decode cX12_ask 67 = .ok (.aload_n 0, 1) := dB_3_1_5.1.1.1.2
theorem dX12_ask_68 : decode cX12_ask 68 = .ok (.getfield 7, 3) := dB_3_1_5.1.1.2.1
theorem dX12_ask_71 : decode cX12_ask 71 = .ok (.iload_n 1, 1) := dB_3_1_5.1.1.2.2
theorem dX12_ask_72 : decode cX12_ask 72 = .ok (.iaload, 1) := dB_3_1_5.1.2.1.1
theorem dX12_ask_73 : decode cX12_ask 73 = .ok (.iconst 2, 1) := dB_3_1_5.1.2.1.2
theorem dX12_ask_74 : decode cX12_ask 74 = .ok (.if_icmp .ne 9, 3) := dB_3_1_5.1.2.2.1
theorem dX12_ask_77 : decode cX12_ask 77 = .ok (.ldc2_w 112, 3) := dB_3_1_5.1.2.2.2
theorem dX12_ask_80 : decode cX12_ask 80 = .ok (.goto 30, 3) := dB_3_1_5.2.1.1.1
theorem dX12_ask_83 : decode cX12_ask 83 = .ok (.aload_n 0, 1) := dB_3_1_5.2.1.1.2
theorem dX12_ask_84 : decode cX12_ask 84 = .ok (.getfield 7, 3) := dB_3_1_5.2.1.2.1
theorem dX12_ask_87 : decode cX12_ask 87 = .ok (.iload_n 1, 1) := dB_3_1_5.2.1.2.2
theorem dX12_ask_88 : decode cX12_ask 88 = .ok (.iaload, 1) := dB_3_1_5.2.2.1.1
theorem dX12_ask_89 : decode cX12_ask 89 = .ok (.iconst 1, 1) := dB_3_1_5.2.2.1.2
theorem dX12_ask_90 : decode cX12_ask 90 = .ok (.if_icmp .ne 19, 3) := dB_3_1_5.2.2.2.1
theorem dX12_ask_93 : decode cX12_ask 93 = .ok (.iload_n 3, 1) := dB_3_1_5.2.2.2.2
theorem dB_3_1_6 : ((((decode cX12_ask 94 = .ok (.ifCond .eq 9, 3)) ∧ (decode cX12_ask 97 = .ok (.ldc2_w 151, 3))) ∧ ((decode cX12_ask 100 = .ok (.goto 10, 3)) ∧ (decode cX12_ask 103 = .ok (.ldc2_w 153, 3)))) ∧ (((decode cX12_ask 106 = .ok (.goto 4, 3)) ∧ (decode cX12_ask 109 = .ok (.lconst 1, 1))) ∧ ((decode cX12_ask 110 = .ok (.ladd, 1)) ∧ (decode cX12_ask 111 = .ok (.putfield 114, 3))))) ∧ ((((decode cX12_ask 114 = .ok (.aload_n 0, 1)) ∧ (decode cX12_ask 115 = .ok (.iload_n 1, 1))) ∧ ((decode cX12_ask 116 = .ok (.iload_n 3, 1)) ∧ (decode cX12_ask 117 = .ok (.invokevirtual 155, 3)))) ∧ (((decode cX12_ask 120 = .ok (.ireturn, 1)) ∧ (decode cX12_room 0 = .ok (.aload_n 0, 1))) ∧ ((decode cX12_room 1 = .ok (.iload_n 1, 1)) ∧ (decode cX12_room 2 = .ok (.iload_n 2, 1))))) := by first | decide +kernel | ((repeat' apply And.intro) <;> decide +kernel)
theorem dX12_ask_94 : decode cX12_ask 94 = .ok (.ifCond .eq 9, 3) := dB_3_1_6.1.1.1.1
theorem dX12_ask_97 : decode cX12_ask 97 = .ok (.ldc2_w 151, 3) := dB_3_1_6.1.1.1.2
theorem dX12_ask_100 : decode cX12_ask 100 = .ok (.goto 10, 3) := dB_3_1_6.1.1.2.1
theorem dX12_ask_103 : decode cX12_ask 103 = .ok (.ldc2_w 153, 3) := dB_3_1_6.1.1.2.2
theorem dX12_ask_106 : decode cX12_ask 106 = .ok (.goto 4, 3) := dB_3_1_6.1.2.1.1
theorem dX12_ask_109 : decode cX12_ask 109 = .ok (.lconst 1, 1) := dB_3_1_6.1.2.1.2
theorem dX12_ask_110 : decode cX12_ask 110 = .ok (.ladd, 1) := dB_3_1_6.1.2.2.1
theorem dX12_ask_111 : decode cX12_ask 111 = .ok (.putfield 114, 3) := dB_3_1_6.1.2.2.2
theorem dX12_ask_114 : decode cX12_ask 114 = .ok (.aload_n 0, 1) := dB_3_1_6.2.1.1.1
theorem dX12_ask_115 : decode cX12_ask 115 = .ok (.iload_n 1, 1) := dB_3_1_6.2.1.1.2
theorem dX12_ask_116 : decode cX12_ask 116 = .ok (.iload_n 3, 1) := dB_3_1_6.2.1.2.1
theorem dX12_ask_117 : decode cX12_ask 117 = .ok (.invokevirtual 155, 3) := dB_3_1_6.2.1.2.2
theorem dX12_ask_120 : decode cX12_ask 120 = .ok (.ireturn, 1) := dB_3_1_6.2.2.1.1
theorem dX12_room_0 : decode cX12_room 0 = .ok (.aload_n 0, 1) := dB_3_1_6.2.2.1.2
theorem dX12_room_1 : decode cX12_room 1 = .ok (.iload_n 1, 1) := dB_3_1_6.2.2.2.1
theorem dX12_room_2 : decode cX12_room 2 = .ok (.iload_n 2, 1) := dB_3_1_6.2.2.2.2
theorem dB_3_1_7 : ((((decode cX12_room 3 = .ok (.invokevirtual 155, 3)) ∧ (decode cX12_room 6 = .ok (.istore_n 3, 1))) ∧ ((decode cX12_room 7 = .ok (.iload_n 1, 1)) ∧ (decode cX12_room 8 = .ok (.aload_n 0, 1)))) ∧ (((decode cX12_room 9 = .ok (.getfield 57, 3)) ∧ (decode cX12_room 12 = .ok (.if_icmp .ne 27, 3))) ∧ ((decode cX12_room 15 = .ok (.iload_n 3, 1)) ∧ (decode cX12_room 16 = .ok (.bipush (-5), 2))))) ∧ ((((decode cX12_room 18 = .ok (.if_icmp .eq 21, 3)) ∧ (decode cX12_room 21 = .ok (.aload_n 0, 1))) ∧ ((decode cX12_room 22 = .ok (.getfield 7, 3)) ∧ (decode cX12_room 25 = .ok (.iload_n 1, 1)))) ∧ (((decode cX12_room 26 = .ok (.iaload, 1)) ∧ (decode cX12_room 27 = .ok (.iconst 1, 1))) ∧ ((decode cX12_room 28 = .ok (.if_icmp .ne 7, 3)) ∧ (decode cX12_room 31 = .ok (.iload_n 2, 1))))) := by first | decide +kernel | ((repeat' apply And.intro) <;> decide +kernel)
theorem dX12_room_3 : decode cX12_room 3 = .ok (.invokevirtual 155, 3) := dB_3_1_7.1.1.1.1
theorem dX12_room_6 : decode cX12_room 6 = .ok (.istore_n 3, 1) := dB_3_1_7.1.1.1.2
theorem dX12_room_7 : decode cX12_room 7 = .ok (.iload_n 1, 1) := dB_3_1_7.1.1.2.1
theorem dX12_room_8 : decode cX12_room 8 = .ok (.aload_n 0, 1) := dB_3_1_7.1.1.2.2
theorem dX12_room_9 : decode cX12_room 9 = .ok (.getfield 57, 3) := dB_3_1_7.1.2.1.1
theorem dX12_room_12 : decode cX12_room 12 = .ok (.if_icmp .ne 27, 3) := dB_3_1_7.1.2.1.2
theorem dX12_room_15 : decode cX12_room 15 = .ok (.iload_n 3, 1) := dB_3_1_7.1.2.2.1
theorem dX12_room_16 : decode cX12_room 16 = .ok (.bipush (-5), 2) := dB_3_1_7.1.2.2.2
theorem dX12_room_18 : decode cX12_room 18 = .ok (.if_icmp .eq 21, 3) := dB_3_1_7.2.1.1.1
theorem dX12_room_21 : decode cX12_room 21 = .ok (.aload_n 0, 1) := dB_3_1_7.2.1.1.2
theorem dX12_room_22 : decode cX12_room 22 = .ok (.getfield 7, 3) := dB_3_1_7.2.1.2.1
theorem dX12_room_25 : decode cX12_room 25 = .ok (.iload_n 1, 1) := dB_3_1_7.2.1.2.2
theorem dX12_room_26 : decode cX12_room 26 = .ok (.iaload, 1) := dB_3_1_7.2.2.1.1
theorem dX12_room_27 : decode cX12_room 27 = .ok (.iconst 1, 1) := dB_3_1_7.2.2.1.2
theorem dX12_room_28 : decode cX12_room 28 = .ok (.if_icmp .ne 7, 3) := dB_3_1_7.2.2.2.1
theorem dX12_room_31 : decode cX12_room 31 = .ok (.iload_n 2, 1) := dB_3_1_7.2.2.2.2
theorem dB_3_1_8 : ((((decode cX12_room 32 = .ok (.ifCond .eq 7, 3)) ∧ (decode cX12_room 35 = .ok (.iconst 1, 1))) ∧ ((decode cX12_room 36 = .ok (.goto 4, 3)) ∧ (decode cX12_room 39 = .ok (.iconst 0, 1)))) ∧ (((decode cX12_room 40 = .ok (.istore 4, 2)) ∧ (decode cX12_room 42 = .ok (.iload_n 3, 1))) ∧ ((decode cX12_room 43 = .ok (.bipush (-5), 2)) ∧ (decode cX12_room 45 = .ok (.if_icmp .ne 8, 3))))) ∧ ((((decode cX12_room 48 = .ok (.ldc 159, 2)) ∧ (decode cX12_room 50 = .ok (.goto 15, 3))) ∧ ((decode cX12_room 53 = .ok (.iload 4, 2)) ∧ (decode cX12_room 55 = .ok (.ifCond .eq 9, 3)))) ∧ (((decode cX12_room 58 = .ok (.iload_n 3, 1)) ∧ (decode cX12_room 59 = .ok (.iconst 1, 1))) ∧ ((decode cX12_room 60 = .ok (.iadd, 1)) ∧ (decode cX12_room 61 = .ok (.goto 4, 3))))) := by first | decide +kernel | ((repeat' apply And.intro) <;> decide +kernel)
theorem dX12_room_32 : decode cX12_room 32 = .ok (.ifCond .eq 7, 3) := dB_3_1_8.1.1.1.1
theorem dX12_room_35 : decode cX12_room 35 = .ok (.iconst 1, 1) := dB_3_1_8.1.1.1.2
theorem dX12_room_36 : decode cX12_room 36 = .ok (.goto 4, 3) := dB_3_1_8.1.1.2.1
theorem dX12_room_39 : decode cX12_room 39 = .ok (.iconst 0, 1) := dB_3_1_8.1.1.2.2
theorem dX12_room_40 : decode cX12_room 40 = .ok (.istore 4, 2) := dB_3_1_8.1.2.1.1
theorem dX12_room_42 : decode cX12_room 42 = .ok (.iload_n 3, 1) := dB_3_1_8.1.2.1.2
theorem dX12_room_43 : decode cX12_room 43 = .ok (.bipush (-5), 2) := dB_3_1_8.1.2.2.1
theorem dX12_room_45 : decode cX12_room 45 = .ok (.if_icmp .ne 8, 3) := dB_3_1_8.1.2.2.2
theorem dX12_room_48 : decode cX12_room 48 = .ok (.ldc 159, 2) := dB_3_1_8.2.1.1.1
theorem dX12_room_50 : decode cX12_room 50 = .ok (.goto 15, 3) := dB_3_1_8.2.1.1.2
theorem dX12_room_53 : decode cX12_room 53 = .ok (.iload 4, 2) := dB_3_1_8.2.1.2.1
theorem dX12_room_55 : decode cX12_room 55 = .ok (.ifCond .eq 9, 3) := dB_3_1_8.2.1.2.2
theorem dX12_room_58 : decode cX12_room 58 = .ok (.iload_n 3, 1) := dB_3_1_8.2.2.1.1
theorem dX12_room_59 : decode cX12_room 59 = .ok (.iconst 1, 1) := dB_3_1_8.2.2.1.2
theorem dX12_room_60 : decode cX12_room 60 = .ok (.iadd, 1) := dB_3_1_8.2.2.2.1
theorem dX12_room_61 : decode cX12_room 61 = .ok (.goto 4, 3) := dB_3_1_8.2.2.2.2
theorem dB_3_1_9 : ((((decode cX12_room 64 = .ok (.iload_n 3, 1)) ∧ (decode cX12_room 65 = .ok (.ireturn, 1))) ∧ ((decode cX12_sizeOf 0 = .ok (.iconst 0, 1)) ∧ (decode cX12_sizeOf 1 = .ok (.istore_n 2, 1)))) ∧ (((decode cX12_sizeOf 2 = .ok (.iconst 0, 1)) ∧ (decode cX12_sizeOf 3 = .ok (.istore_n 3, 1))) ∧ ((decode cX12_sizeOf 4 = .ok (.iload_n 3, 1)) ∧ (decode cX12_sizeOf 5 = .ok (.aload_n 0, 1))))) ∧ ((((decode cX12_sizeOf 6 = .ok (.getfield 95, 3)) ∧ (decode cX12_sizeOf 9 = .ok (.if_icmp .ge 102, 3))) ∧ ((decode cX12_sizeOf 12 = .ok (.aload_n 0, 1)) ∧ (decode cX12_sizeOf 13 = .ok (.getfield 25, 3)))) ∧ (((decode cX12_sizeOf 16 = .ok (.iload_n 3, 1)) ∧ (decode cX12_sizeOf 17 = .ok (.baload, 1))) ∧ ((decode cX12_sizeOf 18 = .ok (.ifCond .ne 87, 3)) ∧ (decode cX12_sizeOf 21 = .ok (.iload_n 1, 1))))) := by first | decide +kernel | ((repeat' apply And.intro) <;> decide +kernel)
theorem dX12_room_64 : decode cX12_room 64 = .ok (.iload_n 3, 1) := dB_3_1_9.1.1.1.1
theorem dX12_room_65 : decode cX12_room 65 = .ok (.ireturn, 1) := dB_3_1_9.1.1.1.2
theorem dX12_sizeOf_0 : decode cX12_sizeOf 0 = .ok (.iconst 0, 1) := dB_3_1_9.1.1.2.1
theorem dX12_sizeOf_1 : decode cX12_sizeOf 1 = .ok (.istore_n 2, 1) := dB_3_1_9.1.1.2.2
theorem dX12_sizeOf_2 : decode cX12_sizeOf 2 = .ok (.iconst 0, 1) := dB_3_1_9.1.2.1.1
theorem dX12_sizeOf_3 : decode cX12_sizeOf 3 = .ok (.istore_n 3, 1) := dB_3_1_9.1.2.1.2
theorem dX12_sizeOf_4 : decode cX12_sizeOf 4 = .ok (.iload_n 3, 1) := dB_3_1_9.1.2.2.1
theorem dX12_sizeOf_5 : decode cX12_sizeOf 5 = .ok (.aload_n 0, 1) := dB_3_1_9.1.2.2.2
theorem dX12_sizeOf_6 : decode cX12_sizeOf 6 = .ok (.getfield 95, 3) := dB_3_1_9.2.1.1.1
theorem dX12_sizeOf_9 : decode cX12_sizeOf 9 = .ok (.if_icmp .ge 102, 3) := dB_3_1_9.2.1.1.2
theorem dX12_sizeOf_12 : decode cX12_sizeOf 12 = .ok (.aload_n 0, 1) := dB_3_1_9.2.1.2.1
theorem dX12_sizeOf_13 : decode cX12_sizeOf 13 = .ok (.getfield 25, 3) := dB_3_1_9.2.1.2.2
theorem dX12_sizeOf_16 : decode cX12_sizeOf 16 = .ok (.iload_n 3, 1) := dB_3_1_9.2.2.1.1
theorem dX12_sizeOf_17 : decode cX12_sizeOf 17 = .ok (.baload, 1) := dB_3_1_9.2.2.1.2
theorem dX12_sizeOf_18 : decode cX12_sizeOf 18 = .ok (.ifCond .ne 87, 3) := dB_3_1_9.2.2.2.1
theorem dX12_sizeOf_21 : decode cX12_sizeOf 21 = .ok (.iload_n 1, 1) := dB_3_1_9.2.2.2.2
theorem dB_3_1_10 : ((((decode cX12_sizeOf 22 = .ok (.aload_n 0, 1)) ∧ (decode cX12_sizeOf 23 = .ok (.getfield 13, 3))) ∧ ((decode cX12_sizeOf 26 = .ok (.iload_n 3, 1)) ∧ (decode cX12_sizeOf 27 = .ok (.iaload, 1)))) ∧ (((decode cX12_sizeOf 28 = .ok (.ishr, 1)) ∧ (decode cX12_sizeOf 29 = .ok (.iconst 1, 1))) ∧ ((decode cX12_sizeOf 30 = .ok (.iand, 1)) ∧ (decode cX12_sizeOf 31 = .ok (.iconst 1, 1))))) ∧ ((((decode cX12_sizeOf 32 = .ok (.if_icmp .ne 7, 3)) ∧ (decode cX12_sizeOf 35 = .ok (.iconst 1, 1))) ∧ ((decode cX12_sizeOf 36 = .ok (.goto 4, 3)) ∧ (decode cX12_sizeOf 39 = .ok (.iconst 0, 1)))) ∧ (((decode cX12_sizeOf 40 = .ok (.istore 4, 2)) ∧ (decode cX12_sizeOf 42 = .ok (.iload_n 1, 1))) ∧ ((decode cX12_sizeOf 43 = .ok (.aload_n 0, 1)) ∧ (decode cX12_sizeOf 44 = .ok (.getfield 16, 3))))) := by first | decide +kernel | ((repeat' apply And.intro) <;> decide +kernel)
theorem dX12_sizeOf_22 : decode cX12_sizeOf 22 = .ok (.aload_n 0, 1) := dB_3_1_10.1.1.1.1
theorem dX12_sizeOf_23 : decode cX12_sizeOf 23 = .ok (.getfield 13, 3) := dB_3_1_10.1.1.1.2
theorem dX12_sizeOf_26 : decode cX12_sizeOf 26 = .ok (.iload_n 3, 1) := dB_3_1_10.1.1.2.1
theorem dX12_sizeOf_27 : decode cX12_sizeOf 27 = .ok (.iaload, 1) := dB_3_1_10.1.1.2.2
theorem dX12_sizeOf_28 : decode cX12_sizeOf 28 = .ok (.ishr, 1) := dB_3_1_10.1.2.1.1
theorem dX12_sizeOf_29 : decode cX12_sizeOf 29 = .ok (.iconst 1, 1) := dB_3_1_10.1.2.1.2
theorem dX12_sizeOf_30 : decode cX12_sizeOf 30 = .ok (.iand, 1) := dB_3_1_10.1.2.2.1
theorem dX12_sizeOf_31 : decode cX12_sizeOf 31 = .ok (.iconst 1, 1) := dB_3_1_10.1.2.2.2
theorem dX12_sizeOf_32 : decode cX12_sizeOf 32 = .ok (.if_icmp .ne 7, 3) := dB_3_1_10.2.1.1.1
theorem dX12_sizeOf_35 : decode cX12_sizeOf 35 = .ok (.iconst 1, 1) := dB_3_1_10.2.1.1.2
theorem dX12_sizeOf_36 : decode cX12_sizeOf 36 = .ok (.goto 4, 3) := dB_3_1_10.2.1.2.1
theorem dX12_sizeOf_39 : decode cX12_sizeOf 39 = .ok (.iconst 0, 1) := dB_3_1_10.2.1.2.2
theorem dX12_sizeOf_40 : decode cX12_sizeOf 40 = .ok (.istore 4, 2) := dB_3_1_10.2.2.1.1
theorem dX12_sizeOf_42 : decode cX12_sizeOf 42 = .ok (.iload_n 1, 1) := dB_3_1_10.2.2.1.2
theorem dX12_sizeOf_43 : decode cX12_sizeOf 43 = .ok (.aload_n 0, 1) := dB_3_1_10.2.2.2.1
theorem dX12_sizeOf_44 : decode cX12_sizeOf 44 = .ok (.getfield 16, 3) := dB_3_1_10.2.2.2.2
theorem dB_3_1_11 : ((((decode cX12_sizeOf 47 = .ok (.iload_n 3, 1)) ∧ (decode cX12_sizeOf 48 = .ok (.iaload, 1))) ∧ ((decode cX12_sizeOf 49 = .ok (.ishr, 1)) ∧ (decode cX12_sizeOf 50 = .ok (.iconst 1, 1)))) ∧ (((decode cX12_sizeOf 51 = .ok (.iand, 1)) ∧ (decode cX12_sizeOf 52 = .ok (.iconst 1, 1))) ∧ ((decode cX12_sizeOf 53 = .ok (.if_icmp .ne 7, 3)) ∧ (decode cX12_sizeOf 56 = .ok (.iconst 1, 1))))) ∧ ((((decode cX12_sizeOf 57 = .ok (.goto 4, 3)) ∧ (decode cX12_sizeOf 60 = .ok (.iconst 0, 1))) ∧ ((decode cX12_sizeOf 61 = .ok (.istore 5, 2)) ∧ (decode cX12_sizeOf 63 = .ok (.iload_n 2, 1)))) ∧ (((decode cX12_sizeOf 64 = .ok (.iload 4, 2)) ∧ (decode cX12_sizeOf 66 = .ok (.ifCond .eq 17, 3))) ∧ ((decode cX12_sizeOf 69 = .ok (.iload 5, 2)) ∧ (decode cX12_sizeOf 71 = .ok (.ifCond .ne 12, 3))))) := by first | decide +kernel | ((repeat' apply And.intro) <;> decide +kernel)
theorem dX12_sizeOf_47 : decode cX12_sizeOf 47 = .ok (.iload_n 3, 1) := dB_3_1_11.1.1.1.1
theorem dX12_sizeOf_48 : decode cX12_sizeOf 48 = .ok (.iaload, 1) := dB_3_1_11.1.1.1.2
theorem dX12_sizeOf_49 : decode cX12_sizeOf 49 = .ok (.ishr, 1) := dB_3_1_11.1.1.2.1
theorem dX12_sizeOf_50 : decode cX12_sizeOf 50 = .ok (.iconst 1, 1) := dB_3_1_11.1.1.2.2
theorem dX12_sizeOf_51 : decode cX12_sizeOf 51 = .ok (.iand, 1) := dB_3_1_11.1.2.1.1
theorem dX12_sizeOf_52 : decode cX12_sizeOf 52 = .ok (.iconst 1, 1) := dB_3_1_11.1.2.1.2
theorem dX12_sizeOf_53 : decode cX12_sizeOf 53 = .ok (.if_icmp .ne 7, 3) := dB_3_1_11.1.2.2.1
theorem dX12_sizeOf_56 : decode cX12_sizeOf 56 = .ok (.iconst 1, 1) := dB_3_1_11.1.2.2.2
theorem dX12_sizeOf_57 : decode cX12_sizeOf 57 = .ok (.goto 4, 3) := dB_3_1_11.2.1.1.1
theorem dX12_sizeOf_60 : decode cX12_sizeOf 60 = .ok (.iconst 0, 1) := dB_3_1_11.2.1.1.2
theorem dX12_sizeOf_61 : decode cX12_sizeOf 61 = .ok (.istore 5, 2) := dB_3_1_11.2.1.2.1
theorem dX12_sizeOf_63 : decode cX12_sizeOf 63 = .ok (.iload_n 2, 1) := dB_3_1_11.2.1.2.2
theorem dX12_sizeOf_64 : decode cX12_sizeOf 64 = .ok (.iload 4, 2) := dB_3_1_11.2.2.1.1
theorem dX12_sizeOf_66 : decode cX12_sizeOf 66 = .ok (.ifCond .eq 17, 3) := dB_3_1_11.2.2.1.2
theorem dX12_sizeOf_69 : decode cX12_sizeOf 69 = .ok (.iload 5, 2) := dB_3_1_11.2.2.2.1
theorem dX12_sizeOf_71 : decode cX12_sizeOf 71 = .ok (.ifCond .ne 12, 3) := dB_3_1_11.2.2.2.2
theorem dB_3_1_12 : ((((decode cX12_sizeOf 74 = .ok (.aload_n 0, 1)) ∧ (decode cX12_sizeOf 75 = .ok (.iload_n 3, 1))) ∧ ((decode cX12_sizeOf 76 = .ok (.iconst 1, 1)) ∧ (decode cX12_sizeOf 77 = .ok (.invokevirtual 160, 3)))) ∧ (((decode cX12_sizeOf 80 = .ok (.goto 23, 3)) ∧ (decode cX12_sizeOf 83 = .ok (.iload 5, 2))) ∧ ((decode cX12_sizeOf 85 = .ok (.ifCond .eq 17, 3)) ∧ (decode cX12_sizeOf 88 = .ok (.iload 4, 2))))) ∧ ((((decode cX12_sizeOf 90 = .ok (.ifCond .ne 12, 3)) ∧ (decode cX12_sizeOf 93 = .ok (.aload_n 0, 1))) ∧ ((decode cX12_sizeOf 94 = .ok (.iload_n 3, 1)) ∧ (decode cX12_sizeOf 95 = .ok (.iconst 0, 1)))) ∧ (((decode cX12_sizeOf 96 = .ok (.invokevirtual 160, 3)) ∧ (decode cX12_sizeOf 99 = .ok (.goto 4, 3))) ∧ ((decode cX12_sizeOf 102 = .ok (.iconst 0, 1)) ∧ (decode cX12_sizeOf 103 = .ok (.iadd, 1))))) := by first | decide +kernel | ((repeat' apply And.intro) <;> decide +kernel)
theorem dX12_sizeOf_74 : decode cX12_sizeOf 74 = .ok (.aload_n 0, 1) := dB_3_1_12.1.1.1.1
theorem dX12_sizeOf_75 : decode cX12_sizeOf 75 = .ok (.iload_n 3, 1) := dB_3_1_12.1.1.1.2
theorem dX12_sizeOf_76 : decode cX12_sizeOf 76 = .ok (.iconst 1, 1) := dB_3_1_12.1.1.2.1
theorem dX12_sizeOf_77 : decode cX12_sizeOf 77 = .ok (.invokevirtual 160, 3) := dB_3_1_12.1.1.2.2
theorem dX12_sizeOf_80 : decode cX12_sizeOf 80 = .ok (.goto 23, 3) := dB_3_1_12.1.2.1.1
theorem dX12_sizeOf_83 : decode cX12_sizeOf 83 = .ok (.iload 5, 2) := dB_3_1_12.1.2.1.2
theorem dX12_sizeOf_85 : decode cX12_sizeOf 85 = .ok (.ifCond .eq 17, 3) := dB_3_1_12.1.2.2.1
theorem dX12_sizeOf_88 : decode cX12_sizeOf 88 = .ok (.iload 4, 2) := dB_3_1_12.1.2.2.2
theorem dX12_sizeOf_90 : decode cX12_sizeOf 90 = .ok (.ifCond .ne 12, 3) := dB_3_1_12.2.1.1.1
theorem dX12_sizeOf_93 : decode cX12_sizeOf 93 = .ok (.aload_n 0, 1) := dB_3_1_12.2.1.1.2
theorem dX12_sizeOf_94 : decode cX12_sizeOf 94 = .ok (.iload_n 3, 1) := dB_3_1_12.2.1.2.1
theorem dX12_sizeOf_95 : decode cX12_sizeOf 95 = .ok (.iconst 0, 1) := dB_3_1_12.2.1.2.2
theorem dX12_sizeOf_96 : decode cX12_sizeOf 96 = .ok (.invokevirtual 160, 3) := dB_3_1_12.2.2.1.1
theorem dX12_sizeOf_99 : decode cX12_sizeOf 99 = .ok (.goto 4, 3) := dB_3_1_12.2.2.1.2
theorem dX12_sizeOf_102 : decode cX12_sizeOf 102 = .ok (.iconst 0, 1) := dB_3_1_12.2.2.2.1
theorem dX12_sizeOf_103 : decode cX12_sizeOf 103 = .ok (.iadd, 1) := dB_3_1_12.2.2.2.2
theorem dB_3_1_13 : ((((decode cX12_sizeOf 104 = .ok (.istore_n 2, 1)) ∧ (decode cX12_sizeOf 105 = .ok (.iinc 3 1, 3))) ∧ ((decode cX12_sizeOf 108 = .ok (.goto (-104), 3)) ∧ (decode cX12_sizeOf 111 = .ok (.iload_n 2, 1)))) ∧ (((decode cX12_sizeOf 112 = .ok (.ldc 159, 2)) ∧ (decode cX12_sizeOf 114 = .ok (.if_icmp .ge 7, 3))) ∧ ((decode cX12_sizeOf 117 = .ok (.iload_n 2, 1)) ∧ (decode cX12_sizeOf 118 = .ok (.goto 5, 3))))) ∧ ((((decode cX12_sizeOf 121 = .ok (.ldc 159, 2)) ∧ (decode cX12_sizeOf 123 = .ok (.ireturn, 1))) ∧ ((decode cX12_mostOf 0 = .ok (.ldc 159, 2)) ∧ (decode cX12_mostOf 2 = .ok (.istore_n 3, 1)))) ∧ (((decode cX12_mostOf 3 = .ok (.iconst 0, 1)) ∧ (decode cX12_mostOf 4 = .ok (.istore 4, 2))) ∧ ((decode cX12_mostOf 6 = .ok (.iload 4, 2)) ∧ (decode cX12_mostOf 8 = .ok (.iconst 1, 1))))) := by first | decide +kernel | ((repeat' apply And.intro) <;> decide +kernel)
theorem dX12_sizeOf_104 : decode cX12_sizeOf 104 = .ok (.istore_n 2, 1) := dB_3_1_13.1.1.1.1
theorem dX12_sizeOf_105 : decode cX12_sizeOf 105 = .ok (.iinc 3 1, 3) := dB_3_1_13.1.1.1.2
theorem dX12_sizeOf_108 : decode cX12_sizeOf 108 = .ok (.goto (-104), 3) := dB_3_1_13.1.1.2.1
theorem dX12_sizeOf_111 : decode cX12_sizeOf 111 = .ok (.iload_n 2, 1) := dB_3_1_13.1.1.2.2
theorem dX12_sizeOf_112 : decode cX12_sizeOf 112 = .ok (.ldc 159, 2) := dB_3_1_13.1.2.1.1
theorem dX12_sizeOf_114 : decode cX12_sizeOf 114 = .ok (.if_icmp .ge 7, 3) := dB_3_1_13.1.2.1.2
theorem dX12_sizeOf_117 : decode cX12_sizeOf 117 = .ok (.iload_n 2, 1) := dB_3_1_13.1.2.2.1
theorem dX12_sizeOf_118 : decode cX12_sizeOf 118 = .ok (.goto 5, 3) := dB_3_1_13.1.2.2.2
theorem dX12_sizeOf_121 : decode cX12_sizeOf 121 = .ok (.ldc 159, 2) := dB_3_1_13.2.1.1.1
theorem dX12_sizeOf_123 : decode cX12_sizeOf 123 = .ok (.ireturn, 1) := dB_3_1_13.2.1.1.2
theorem dX12_mostOf_0 : decode cX12_mostOf 0 = .ok (.ldc 159, 2) := dB_3_1_13.2.1.2.1
theorem dX12_mostOf_2 : decode cX12_mostOf 2 = .ok (.istore_n 3, 1) := dB_3_1_13.2.1.2.2
theorem dX12_mostOf_3 : decode cX12_mostOf 3 = .ok (.iconst 0, 1) := dB_3_1_13.2.2.1.1
theorem dX12_mostOf_4 : decode cX12_mostOf 4 = .ok (.istore 4, 2) := dB_3_1_13.2.2.1.2
theorem dX12_mostOf_6 : decode cX12_mostOf 6 = .ok (.iload 4, 2) := dB_3_1_13.2.2.2.1
theorem dX12_mostOf_8 : decode cX12_mostOf 8 = .ok (.iconst 1, 1) := dB_3_1_13.2.2.2.2
theorem dB_3_1_14 : ((((decode cX12_mostOf 9 = .ok (.aload_n 0, 1)) ∧ (decode cX12_mostOf 10 = .ok (.getfield 88, 3))) ∧ ((decode cX12_mostOf 13 = .ok (.ishl, 1)) ∧ (decode cX12_mostOf 14 = .ok (.if_icmp .ge 49, 3)))) ∧ (((decode cX12_mostOf 17 = .ok (.iload 4, 2)) ∧ (decode cX12_mostOf 19 = .ok (.iload_n 1, 1))) ∧ ((decode cX12_mostOf 20 = .ok (.ishr, 1)) ∧ (decode cX12_mostOf 21 = .ok (.iconst 1, 1))))) ∧ ((((decode cX12_mostOf 22 = .ok (.iand, 1)) ∧ (decode cX12_mostOf 23 = .ok (.iconst 1, 1))) ∧ ((decode cX12_mostOf 24 = .ok (.if_icmp .ne 33, 3)) ∧ (decode cX12_mostOf 27 = .ok (.iload 4, 2)))) ∧ (((decode cX12_mostOf 29 = .ok (.iload_n 2, 1)) ∧ (decode cX12_mostOf 30 = .ok (.ishr, 1))) ∧ ((decode cX12_mostOf 31 = .ok (.iconst 1, 1)) ∧ (decode cX12_mostOf 32 = .ok (.iand, 1))))) := by first | decide +kernel | ((repeat' apply And.intro) <;> decide +kernel)
theorem dX12_mostOf_9 : decode cX12_mostOf 9 = .ok (.aload_n 0, 1) := dB_3_1_14.1.1.1.1
theorem dX12_mostOf_10 : decode cX12_mostOf 10 = .ok (.getfield 88, 3) := dB_3_1_14.1.1.1.2
theorem dX12_mostOf_13 : decode cX12_mostOf 13 = .ok (.ishl, 1) := dB_3_1_14.1.1.2.1
theorem dX12_mostOf_14 : decode cX12_mostOf 14 = .ok (.if_icmp .ge 49, 3) := dB_3_1_14.1.1.2.2
theorem dX12_mostOf_17 : decode cX12_mostOf 17 = .ok (.iload 4, 2) := dB_3_1_14.1.2.1.1
theorem dX12_mostOf_19 : decode cX12_mostOf 19 = .ok (.iload_n 1, 1) := dB_3_1_14.1.2.1.2
theorem dX12_mostOf_20 : decode cX12_mostOf 20 = .ok (.ishr, 1) := dB_3_1_14.1.2.2.1
theorem dX12_mostOf_21 : decode cX12_mostOf 21 = .ok (.iconst 1, 1) := dB_3_1_14.1.2.2.2
theorem dX12_mostOf_22 : decode cX12_mostOf 22 = .ok (.iand, 1) := dB_3_1_14.2.1.1.1
theorem dX12_mostOf_23 : decode cX12_mostOf 23 = .ok (.iconst 1, 1) := dB_3_1_14.2.1.1.2
theorem dX12_mostOf_24 : decode cX12_mostOf 24 = .ok (.if_icmp .ne 33, 3) := dB_3_1_14.2.1.2.1
theorem dX12_mostOf_27 : decode cX12_mostOf 27 = .ok (.iload 4, 2) := dB_3_1_14.2.1.2.2
theorem dX12_mostOf_29 : decode cX12_mostOf 29 = .ok (.iload_n 2, 1) := dB_3_1_14.2.2.1.1
theorem dX12_mostOf_30 : decode cX12_mostOf 30 = .ok (.ishr, 1) := dB_3_1_14.2.2.1.2
theorem dX12_mostOf_31 : decode cX12_mostOf 31 = .ok (.iconst 1, 1) := dB_3_1_14.2.2.2.1
theorem dX12_mostOf_32 : decode cX12_mostOf 32 = .ok (.iand, 1) := dB_3_1_14.2.2.2.2
theorem dB_3_1_15 : ((((decode cX12_mostOf 33 = .ok (.ifCond .ne 24, 3)) ∧ (decode cX12_mostOf 36 = .ok (.aload_n 0, 1))) ∧ ((decode cX12_mostOf 37 = .ok (.iload 4, 2)) ∧ (decode cX12_mostOf 39 = .ok (.invokevirtual 163, 3)))) ∧ (((decode cX12_mostOf 42 = .ok (.istore 5, 2)) ∧ (decode cX12_mostOf 44 = .ok (.iload 5, 2))) ∧ ((decode cX12_mostOf 46 = .ok (.iload_n 3, 1)) ∧ (decode cX12_mostOf 47 = .ok (.if_icmp .ge 8, 3))))) ∧ ((((decode cX12_mostOf 50 = .ok (.iload 5, 2)) ∧ (decode cX12_mostOf 52 = .ok (.goto 4, 3))) ∧ ((decode cX12_mostOf 55 = .ok (.iload_n 3, 1)) ∧ (decode cX12_mostOf 56 = .ok (.istore_n 3, 1)))) ∧ (((decode cX12_mostOf 57 = .ok (.iinc 4 1, 3)) ∧ (decode cX12_mostOf 60 = .ok (.goto (-54), 3))) ∧ ((decode cX12_mostOf 63 = .ok (.iload_n 3, 1)) ∧ (decode cX12_mostOf 64 = .ok (.ireturn, 1))))) := by first | decide +kernel | ((repeat' apply And.intro) <;> decide +kernel)
theorem dX12_mostOf_33 : decode cX12_mostOf 33 = .ok (.ifCond .ne 24, 3) := dB_3_1_15.1.1.1.1
theorem dX12_mostOf_36 : decode cX12_mostOf 36 = .ok (.aload_n 0, 1) := dB_3_1_15.1.1.1.2
theorem dX12_mostOf_37 : decode cX12_mostOf 37 = .ok (.iload 4, 2) := dB_3_1_15.1.1.2.1
theorem dX12_mostOf_39 : decode cX12_mostOf 39 = .ok (.invokevirtual 163, 3) := dB_3_1_15.1.1.2.2
theorem dX12_mostOf_42 : decode cX12_mostOf 42 = .ok (.istore 5, 2) := dB_3_1_15.1.2.1.1
theorem dX12_mostOf_44 : decode cX12_mostOf 44 = .ok (.iload 5, 2) := dB_3_1_15.1.2.1.2
theorem dX12_mostOf_46 : decode cX12_mostOf 46 = .ok (.iload_n 3, 1) := dB_3_1_15.1.2.2.1
theorem dX12_mostOf_47 : decode cX12_mostOf 47 = .ok (.if_icmp .ge 8, 3) := dB_3_1_15.1.2.2.2
theorem dX12_mostOf_50 : decode cX12_mostOf 50 = .ok (.iload 5, 2) := dB_3_1_15.2.1.1.1
theorem dX12_mostOf_52 : decode cX12_mostOf 52 = .ok (.goto 4, 3) := dB_3_1_15.2.1.1.2
theorem dX12_mostOf_55 : decode cX12_mostOf 55 = .ok (.iload_n 3, 1) := dB_3_1_15.2.1.2.1
theorem dX12_mostOf_56 : decode cX12_mostOf 56 = .ok (.istore_n 3, 1) := dB_3_1_15.2.1.2.2
theorem dX12_mostOf_57 : decode cX12_mostOf 57 = .ok (.iinc 4 1, 3) := dB_3_1_15.2.2.1.1
theorem dX12_mostOf_60 : decode cX12_mostOf 60 = .ok (.goto (-54), 3) := dB_3_1_15.2.2.1.2
theorem dX12_mostOf_63 : decode cX12_mostOf 63 = .ok (.iload_n 3, 1) := dB_3_1_15.2.2.2.1
theorem dX12_mostOf_64 : decode cX12_mostOf 64 = .ok (.ireturn, 1) := dB_3_1_15.2.2.2.2
theorem dB_3_1_16 : ((((decode cX12_asTold 0 = .ok (.iload_n 0, 1)) ∧ (decode cX12_asTold 1 = .ok (.ldc 159, 2))) ∧ ((decode cX12_asTold 3 = .ok (.if_icmp .ne 8, 3)) ∧ (decode cX12_asTold 6 = .ok (.bipush (-5), 2)))) ∧ (((decode cX12_asTold 8 = .ok (.goto 4, 3)) ∧ (decode cX12_asTold 11 = .ok (.iload_n 0, 1))) ∧ ((decode cX12_asTold 12 = .ok (.ireturn, 1)) ∧ (decode cX12_most 0 = .ok (.aload_n 0, 1))))) ∧ ((((decode cX12_most 1 = .ok (.iconst 0, 1)) ∧ (decode cX12_most 2 = .ok (.putfield 85, 3))) ∧ ((decode cX12_most 5 = .ok (.aload_n 0, 1)) ∧ (decode cX12_most 6 = .ok (.iload_n 1, 1)))) ∧ (((decode cX12_most 7 = .ok (.iload_n 2, 1)) ∧ (decode cX12_most 8 = .ok (.invokevirtual 143, 3))) ∧ ((decode cX12_most 11 = .ok (.ifCond .eq 15, 3)) ∧ (decode cX12_most 14 = .ok (.aload_n 0, 1))))) := by first | decide +kernel | ((repeat' apply And.intro) <;> decide +kernel)
theorem dX12_asTold_0 : decode cX12_asTold 0 = .ok (.iload_n 0, 1) := dB_3_1_16.1.1.1.1
theorem dX12_asTold_1 : decode cX12_asTold 1 = .ok (.ldc 159, 2) := dB_3_1_16.1.1.1.2
theorem dX12_asTold_3 : decode cX12_asTold 3 = .ok (.if_icmp .ne 8, 3) := dB_3_1_16.1.1.2.1
theorem dX12_asTold_6 : decode cX12_asTold 6 = .ok (.bipush (-5), 2) := dB_3_1_16.1.1.2.2
theorem dX12_asTold_8 : decode cX12_asTold 8 = .ok (.goto 4, 3) := dB_3_1_16.1.2.1.1
theorem dX12_asTold_11 : decode cX12_asTold 11 = .ok (.iload_n 0, 1) := dB_3_1_16.1.2.1.2
theorem dX12_asTold_12 : decode cX12_asTold 12 = .ok (.ireturn, 1) := dB_3_1_16.1.2.2.1
theorem dX12_most_0 : decode cX12_most 0 = .ok (.aload_n 0, 1) := dB_3_1_16.1.2.2.2
theorem dX12_most_1 : decode cX12_most 1 = .ok (.iconst 0, 1) := dB_3_1_16.2.1.1.1
theorem dX12_most_2 : decode cX12_most 2 = .ok (.putfield 85, 3) := dB_3_1_16.2.1.1.2
theorem dX12_most_5 : decode cX12_most 5 = .ok (.aload_n 0, 1) := dB_3_1_16.2.1.2.1
theorem dX12_most_6 : decode cX12_most 6 = .ok (.iload_n 1, 1) := dB_3_1_16.2.1.2.2
theorem dX12_most_7 : decode cX12_most 7 = .ok (.iload_n 2, 1) := dB_3_1_16.2.2.1.1
theorem dX12_most_8 : decode cX12_most 8 = .ok (.invokevirtual 143, 3) := dB_3_1_16.2.2.1.2
theorem dX12_most_11 : decode cX12_most 11 = .ok (.ifCond .eq 15, 3) := dB_3_1_16.2.2.2.1
theorem dX12_most_14 : decode cX12_most 14 = .ok (.aload_n 0, 1) := dB_3_1_16.2.2.2.2
theorem dB_3_1_17 : ((((decode cX12_most 15 = .ok (.iload_n 1, 1)) ∧ (decode cX12_most 16 = .ok (.iload_n 2, 1))) ∧ ((decode cX12_most 17 = .ok (.invokevirtual 166, 3)) ∧ (decode cX12_most 20 = .ok (.invokestatic 170, 3)))) ∧ (((decode cX12_most 23 = .ok (.goto 4, 3)) ∧ (decode cX12_most 26 = .ok (.iconst (-1), 1))) ∧ ((decode cX12_most 27 = .ok (.ireturn, 1)) ∧ (decode cX12_left 0 = .ok (.aload_n 0, 1))))) ∧ ((((decode cX12_left 1 = .ok (.getfield 25, 3)) ∧ (decode cX12_left 4 = .ok (.iload_n 1, 1))) ∧ ((decode cX12_left 5 = .ok (.baload, 1)) ∧ (decode cX12_left 6 = .ok (.ifCond .eq 5, 3)))) ∧ (((decode cX12_left 9 = .ok (.iconst 0, 1)) ∧ (decode cX12_left 10 = .ok (.ireturn, 1))) ∧ ((decode cX12_left 11 = .ok (.aload_n 0, 1)) ∧ (decode cX12_left 12 = .ok (.getfield 13, 3))))) := by first | decide +kernel | ((repeat' apply And.intro) <;> decide +kernel)
theorem dX12_most_15 : decode cX12_most 15 = .ok (.iload_n 1, 1) := dB_3_1_17.1.1.1.1
theorem dX12_most_16 : decode cX12_most 16 = .ok (.iload_n 2, 1) := dB_3_1_17.1.1.1.2
theorem dX12_most_17 : decode cX12_most 17 = .ok (.invokevirtual 166, 3) := dB_3_1_17.1.1.2.1
theorem dX12_most_20 : decode cX12_most 20 = .ok (.invokestatic 170, 3) := dB_3_1_17.1.1.2.2
theorem dX12_most_23 : decode cX12_most 23 = .ok (.goto 4, 3) := dB_3_1_17.1.2.1.1
theorem dX12_most_26 : decode cX12_most 26 = .ok (.iconst (-1), 1) := dB_3_1_17.1.2.1.2
theorem dX12_most_27 : decode cX12_most 27 = .ok (.ireturn, 1) := dB_3_1_17.1.2.2.1
theorem dX12_left_0 : decode cX12_left 0 = .ok (.aload_n 0, 1) := dB_3_1_17.1.2.2.2
theorem dX12_left_1 : decode cX12_left 1 = .ok (.getfield 25, 3) := dB_3_1_17.2.1.1.1
theorem dX12_left_4 : decode cX12_left 4 = .ok (.iload_n 1, 1) := dB_3_1_17.2.1.1.2
theorem dX12_left_5 : decode cX12_left 5 = .ok (.baload, 1) := dB_3_1_17.2.1.2.1
theorem dX12_left_6 : decode cX12_left 6 = .ok (.ifCond .eq 5, 3) := dB_3_1_17.2.1.2.2
theorem dX12_left_9 : decode cX12_left 9 = .ok (.iconst 0, 1) := dB_3_1_17.2.2.1.1
theorem dX12_left_10 : decode cX12_left 10 = .ok (.ireturn, 1) := dB_3_1_17.2.2.1.2
theorem dX12_left_11 : decode cX12_left 11 = .ok (.aload_n 0, 1) := dB_3_1_17.2.2.2.1
theorem dX12_left_12 : decode cX12_left 12 = .ok (.getfield 13, 3) := dB_3_1_17.2.2.2.2
theorem dB_3_1_18 : ((((decode cX12_left 15 = .ok (.iload_n 1, 1)) ∧ (decode cX12_left 16 = .ok (.iaload, 1))) ∧ ((decode cX12_left 17 = .ok (.iload_n 2, 1)) ∧ (decode cX12_left 18 = .ok (.if_icmp .ne 29, 3)))) ∧ (((decode cX12_left 21 = .ok (.aload_n 0, 1)) ∧ (decode cX12_left 22 = .ok (.getfield 16, 3))) ∧ ((decode cX12_left 25 = .ok (.iload_n 1, 1)) ∧ (decode cX12_left 26 = .ok (.iaload, 1))))) ∧ ((((decode cX12_left 27 = .ok (.iload_n 3, 1)) ∧ (decode cX12_left 28 = .ok (.if_icmp .ne 19, 3))) ∧ ((decode cX12_left 31 = .ok (.aload_n 0, 1)) ∧ (decode cX12_left 32 = .ok (.iload_n 1, 1)))) ∧ (((decode cX12_left 33 = .ok (.iconst 1, 1)) ∧ (decode cX12_left 34 = .ok (.invokevirtual 160, 3))) ∧ ((decode cX12_left 37 = .ok (.aload_n 0, 1)) ∧ (decode cX12_left 38 = .ok (.getfield 61, 3))))) := by first | decide +kernel | ((repeat' apply And.intro) <;> decide +kernel)
theorem dX12_left_15 : decode cX12_left 15 = .ok (.iload_n 1, 1) := dB_3_1_18.1.1.1.1
theorem dX12_left_16 : decode cX12_left 16 = .ok (.iaload, 1) := dB_3_1_18.1.1.1.2
theorem dX12_left_17 : decode cX12_left 17 = .ok (.iload_n 2, 1) := dB_3_1_18.1.1.2.1
theorem dX12_left_18 : decode cX12_left 18 = .ok (.if_icmp .ne 29, 3) := dB_3_1_18.1.1.2.2
theorem dX12_left_21 : decode cX12_left 21 = .ok (.aload_n 0, 1) := dB_3_1_18.1.2.1.1
theorem dX12_left_22 : decode cX12_left 22 = .ok (.getfield 16, 3) := dB_3_1_18.1.2.1.2
theorem dX12_left_25 : decode cX12_left 25 = .ok (.iload_n 1, 1) := dB_3_1_18.1.2.2.1
theorem dX12_left_26 : decode cX12_left 26 = .ok (.iaload, 1) := dB_3_1_18.1.2.2.2
theorem dX12_left_27 : decode cX12_left 27 = .ok (.iload_n 3, 1) := dB_3_1_18.2.1.1.1
theorem dX12_left_28 : decode cX12_left 28 = .ok (.if_icmp .ne 19, 3) := dB_3_1_18.2.1.1.2
theorem dX12_left_31 : decode cX12_left 31 = .ok (.aload_n 0, 1) := dB_3_1_18.2.1.2.1
theorem dX12_left_32 : decode cX12_left 32 = .ok (.iload_n 1, 1) := dB_3_1_18.2.1.2.2
theorem dX12_left_33 : decode cX12_left 33 = .ok (.iconst 1, 1) := dB_3_1_18.2.2.1.1
theorem dX12_left_34 : decode cX12_left 34 = .ok (.invokevirtual 160, 3) := dB_3_1_18.2.2.1.2
theorem dX12_left_37 : decode cX12_left 37 = .ok (.aload_n 0, 1) := dB_3_1_18.2.2.2.1
theorem dX12_left_38 : decode cX12_left 38 = .ok (.getfield 61, 3) := dB_3_1_18.2.2.2.2
theorem dB_3_1_19 : ((((decode cX12_left 41 = .ok (.iload_n 1, 1)) ∧ (decode cX12_left 42 = .ok (.iaload, 1))) ∧ ((decode cX12_left 43 = .ok (.isub, 1)) ∧ (decode cX12_left 44 = .ok (.goto 40, 3)))) ∧ (((decode cX12_left 47 = .ok (.aload_n 0, 1)) ∧ (decode cX12_left 48 = .ok (.getfield 13, 3))) ∧ ((decode cX12_left 51 = .ok (.iload_n 1, 1)) ∧ (decode cX12_left 52 = .ok (.iaload, 1))))) ∧ ((((decode cX12_left 53 = .ok (.iload_n 3, 1)) ∧ (decode cX12_left 54 = .ok (.if_icmp .ne 29, 3))) ∧ ((decode cX12_left 57 = .ok (.aload_n 0, 1)) ∧ (decode cX12_left 58 = .ok (.getfield 16, 3)))) ∧ (((decode cX12_left 61 = .ok (.iload_n 1, 1)) ∧ (decode cX12_left 62 = .ok (.iaload, 1))) ∧ ((decode cX12_left 63 = .ok (.iload_n 2, 1)) ∧ (decode cX12_left 64 = .ok (.if_icmp .ne 19, 3))))) := by first | decide +kernel | ((repeat' apply And.intro) <;> decide +kernel)
theorem dX12_left_41 : decode cX12_left 41 = .ok (.iload_n 1, 1) := dB_3_1_19.1.1.1.1
theorem dX12_left_42 : decode cX12_left 42 = .ok (.iaload, 1) := dB_3_1_19.1.1.1.2
theorem dX12_left_43 : decode cX12_left 43 = .ok (.isub, 1) := dB_3_1_19.1.1.2.1
theorem dX12_left_44 : decode cX12_left 44 = .ok (.goto 40, 3) := dB_3_1_19.1.1.2.2
theorem dX12_left_47 : decode cX12_left 47 = .ok (.aload_n 0, 1) := dB_3_1_19.1.2.1.1
theorem dX12_left_48 : decode cX12_left 48 = .ok (.getfield 13, 3) := dB_3_1_19.1.2.1.2
theorem dX12_left_51 : decode cX12_left 51 = .ok (.iload_n 1, 1) := dB_3_1_19.1.2.2.1
theorem dX12_left_52 : decode cX12_left 52 = .ok (.iaload, 1) := dB_3_1_19.1.2.2.2
theorem dX12_left_53 : decode cX12_left 53 = .ok (.iload_n 3, 1) := dB_3_1_19.2.1.1.1
theorem dX12_left_54 : decode cX12_left 54 = .ok (.if_icmp .ne 29, 3) := dB_3_1_19.2.1.1.2
theorem dX12_left_57 : decode cX12_left 57 = .ok (.aload_n 0, 1) := dB_3_1_19.2.1.2.1
theorem dX12_left_58 : decode cX12_left 58 = .ok (.getfield 16, 3) := dB_3_1_19.2.1.2.2
theorem dX12_left_61 : decode cX12_left 61 = .ok (.iload_n 1, 1) := dB_3_1_19.2.2.1.1
theorem dX12_left_62 : decode cX12_left 62 = .ok (.iaload, 1) := dB_3_1_19.2.2.1.2
theorem dX12_left_63 : decode cX12_left 63 = .ok (.iload_n 2, 1) := dB_3_1_19.2.2.2.1
theorem dX12_left_64 : decode cX12_left 64 = .ok (.if_icmp .ne 19, 3) := dB_3_1_19.2.2.2.2
theorem dB_3_1_20 : ((((decode cX12_left 67 = .ok (.aload_n 0, 1)) ∧ (decode cX12_left 68 = .ok (.iload_n 1, 1))) ∧ ((decode cX12_left 69 = .ok (.iconst 0, 1)) ∧ (decode cX12_left 70 = .ok (.invokevirtual 160, 3)))) ∧ (((decode cX12_left 73 = .ok (.aload_n 0, 1)) ∧ (decode cX12_left 74 = .ok (.getfield 61, 3))) ∧ ((decode cX12_left 77 = .ok (.iload_n 1, 1)) ∧ (decode cX12_left 78 = .ok (.iaload, 1))))) ∧ ((((decode cX12_left 79 = .ok (.iadd, 1)) ∧ (decode cX12_left 80 = .ok (.goto 4, 3))) ∧ ((decode cX12_left 83 = .ok (.iconst 0, 1)) ∧ (decode cX12_left 84 = .ok (.ireturn, 1)))) ∧ (((decode cX12_leftOf 0 = .ok (.iconst 0, 1)) ∧ (decode cX12_leftOf 1 = .ok (.istore_n 3, 1))) ∧ ((decode cX12_leftOf 2 = .ok (.iconst 0, 1)) ∧ (decode cX12_leftOf 3 = .ok (.istore 4, 2))))) := by first | decide +kernel | ((repeat' apply And.intro) <;> decide +kernel)
theorem dX12_left_67 : decode cX12_left 67 = .ok (.aload_n 0, 1) := dB_3_1_20.1.1.1.1
theorem dX12_left_68 : decode cX12_left 68 = .ok (.iload_n 1, 1) := dB_3_1_20.1.1.1.2
theorem dX12_left_69 : decode cX12_left 69 = .ok (.iconst 0, 1) := dB_3_1_20.1.1.2.1
theorem dX12_left_70 : decode cX12_left 70 = .ok (.invokevirtual 160, 3) := dB_3_1_20.1.1.2.2
theorem dX12_left_73 : decode cX12_left 73 = .ok (.aload_n 0, 1) := dB_3_1_20.1.2.1.1
theorem dX12_left_74 : decode cX12_left 74 = .ok (.getfield 61, 3) := dB_3_1_20.1.2.1.2
theorem dX12_left_77 : decode cX12_left 77 = .ok (.iload_n 1, 1) := dB_3_1_20.1.2.2.1
theorem dX12_left_78 : decode cX12_left 78 = .ok (.iaload, 1) := dB_3_1_20.1.2.2.2
theorem dX12_left_79 : decode cX12_left 79 = .ok (.iadd, 1) := dB_3_1_20.2.1.1.1
theorem dX12_left_80 : decode cX12_left 80 = .ok (.goto 4, 3) := dB_3_1_20.2.1.1.2
theorem dX12_left_83 : decode cX12_left 83 = .ok (.iconst 0, 1) := dB_3_1_20.2.1.2.1
theorem dX12_left_84 : decode cX12_left 84 = .ok (.ireturn, 1) := dB_3_1_20.2.1.2.2
theorem dX12_leftOf_0 : decode cX12_leftOf 0 = .ok (.iconst 0, 1) := dB_3_1_20.2.2.1.1
theorem dX12_leftOf_1 : decode cX12_leftOf 1 = .ok (.istore_n 3, 1) := dB_3_1_20.2.2.1.2
theorem dX12_leftOf_2 : decode cX12_leftOf 2 = .ok (.iconst 0, 1) := dB_3_1_20.2.2.2.1
theorem dX12_leftOf_3 : decode cX12_leftOf 3 = .ok (.istore 4, 2) := dB_3_1_20.2.2.2.2
theorem dB_3_1_21 : ((((decode cX12_leftOf 5 = .ok (.iload 4, 2)) ∧ (decode cX12_leftOf 7 = .ok (.aload_n 0, 1))) ∧ ((decode cX12_leftOf 8 = .ok (.getfield 95, 3)) ∧ (decode cX12_leftOf 11 = .ok (.if_icmp .ge 20, 3)))) ∧ (((decode cX12_leftOf 14 = .ok (.iload_n 3, 1)) ∧ (decode cX12_leftOf 15 = .ok (.aload_n 0, 1))) ∧ ((decode cX12_leftOf 16 = .ok (.iload 4, 2)) ∧ (decode cX12_leftOf 18 = .ok (.iload_n 1, 1))))) ∧ ((((decode cX12_leftOf 19 = .ok (.iload_n 2, 1)) ∧ (decode cX12_leftOf 20 = .ok (.invokevirtual 173, 3))) ∧ ((decode cX12_leftOf 23 = .ok (.iadd, 1)) ∧ (decode cX12_leftOf 24 = .ok (.istore_n 3, 1)))) ∧ (((decode cX12_leftOf 25 = .ok (.iinc 4 1, 3)) ∧ (decode cX12_leftOf 28 = .ok (.goto (-23), 3))) ∧ ((decode cX12_leftOf 31 = .ok (.iload_n 3, 1)) ∧ (decode cX12_leftOf 32 = .ok (.ireturn, 1))))) := by first | decide +kernel | ((repeat' apply And.intro) <;> decide +kernel)
theorem dX12_leftOf_5 : decode cX12_leftOf 5 = .ok (.iload 4, 2) := dB_3_1_21.1.1.1.1
theorem dX12_leftOf_7 : decode cX12_leftOf 7 = .ok (.aload_n 0, 1) := dB_3_1_21.1.1.1.2
theorem dX12_leftOf_8 : decode cX12_leftOf 8 = .ok (.getfield 95, 3) := dB_3_1_21.1.1.2.1
theorem dX12_leftOf_11 : decode cX12_leftOf 11 = .ok (.if_icmp .ge 20, 3) := dB_3_1_21.1.1.2.2
theorem dX12_leftOf_14 : decode cX12_leftOf 14 = .ok (.iload_n 3, 1) := dB_3_1_21.1.2.1.1
theorem dX12_leftOf_15 : decode cX12_leftOf 15 = .ok (.aload_n 0, 1) := dB_3_1_21.1.2.1.2
theorem dX12_leftOf_16 : decode cX12_leftOf 16 = .ok (.iload 4, 2) := dB_3_1_21.1.2.2.1
theorem dX12_leftOf_18 : decode cX12_leftOf 18 = .ok (.iload_n 1, 1) := dB_3_1_21.1.2.2.2
theorem dX12_leftOf_19 : decode cX12_leftOf 19 = .ok (.iload_n 2, 1) := dB_3_1_21.2.1.1.1
theorem dX12_leftOf_20 : decode cX12_leftOf 20 = .ok (.invokevirtual 173, 3) := dB_3_1_21.2.1.1.2
theorem dX12_leftOf_23 : decode cX12_leftOf 23 = .ok (.iadd, 1) := dB_3_1_21.2.1.2.1
theorem dX12_leftOf_24 : decode cX12_leftOf 24 = .ok (.istore_n 3, 1) := dB_3_1_21.2.1.2.2
theorem dX12_leftOf_25 : decode cX12_leftOf 25 = .ok (.iinc 4 1, 3) := dB_3_1_21.2.2.1.1
theorem dX12_leftOf_28 : decode cX12_leftOf 28 = .ok (.goto (-23), 3) := dB_3_1_21.2.2.1.2
theorem dX12_leftOf_31 : decode cX12_leftOf 31 = .ok (.iload_n 3, 1) := dB_3_1_21.2.2.2.1
theorem dX12_leftOf_32 : decode cX12_leftOf 32 = .ok (.ireturn, 1) := dB_3_1_21.2.2.2.2
theorem dB_3_1_22 : ((((decode cX12_isMet 0 = .ok (.iconst 0, 1)) ∧ (decode cX12_isMet 1 = .ok (.istore_n 3, 1))) ∧ ((decode cX12_isMet 2 = .ok (.iconst 0, 1)) ∧ (decode cX12_isMet 3 = .ok (.istore 4, 2)))) ∧ (((decode cX12_isMet 5 = .ok (.iload 4, 2)) ∧ (decode cX12_isMet 7 = .ok (.iload_n 2, 1))) ∧ ((decode cX12_isMet 8 = .ok (.if_icmp .ge 28, 3)) ∧ (decode cX12_isMet 11 = .ok (.iload_n 3, 1))))) ∧ ((((decode cX12_isMet 12 = .ok (.aload_n 0, 1)) ∧ (decode cX12_isMet 13 = .ok (.getfield 64, 3))) ∧ ((decode cX12_isMet 16 = .ok (.iload 4, 2)) ∧ (decode cX12_isMet 18 = .ok (.iaload, 1)))) ∧ (((decode cX12_isMet 19 = .ok (.iload_n 1, 1)) ∧ (decode cX12_isMet 20 = .ok (.if_icmp .ne 7, 3))) ∧ ((decode cX12_isMet 23 = .ok (.iconst 1, 1)) ∧ (decode cX12_isMet 24 = .ok (.goto 4, 3))))) := by first | decide +kernel | ((repeat' apply And.intro) <;> decide +kernel)
theorem dX12_isMet_0 : decode cX12_isMet 0 = .ok (.iconst 0, 1) := dB_3_1_22.1.1.1.1
theorem dX12_isMet_1 : decode cX12_isMet 1 = .ok (.istore_n 3, 1) := dB_3_1_22.1.1.1.2
theorem dX12_isMet_2 : decode cX12_isMet 2 = .ok (.iconst 0, 1) := dB_3_1_22.1.1.2.1
theorem dX12_isMet_3 : decode cX12_isMet 3 = .ok (.istore 4, 2) := dB_3_1_22.1.1.2.2
theorem dX12_isMet_5 : decode cX12_isMet 5 = .ok (.iload 4, 2) := dB_3_1_22.1.2.1.1
theorem dX12_isMet_7 : decode cX12_isMet 7 = .ok (.iload_n 2, 1) := dB_3_1_22.1.2.1.2
theorem dX12_isMet_8 : decode cX12_isMet 8 = .ok (.if_icmp .ge 28, 3) := dB_3_1_22.1.2.2.1
theorem dX12_isMet_11 : decode cX12_isMet 11 = .ok (.iload_n 3, 1) := dB_3_1_22.1.2.2.2
theorem dX12_isMet_12 : decode cX12_isMet 12 = .ok (.aload_n 0, 1) := dB_3_1_22.2.1.1.1
theorem dX12_isMet_13 : decode cX12_isMet 13 = .ok (.getfield 64, 3) := dB_3_1_22.2.1.1.2
theorem dX12_isMet_16 : decode cX12_isMet 16 = .ok (.iload 4, 2) := dB_3_1_22.2.1.2.1
theorem dX12_isMet_18 : decode cX12_isMet 18 = .ok (.iaload, 1) := dB_3_1_22.2.1.2.2
theorem dX12_isMet_19 : decode cX12_isMet 19 = .ok (.iload_n 1, 1) := dB_3_1_22.2.2.1.1
theorem dX12_isMet_20 : decode cX12_isMet 20 = .ok (.if_icmp .ne 7, 3) := dB_3_1_22.2.2.1.2
theorem dX12_isMet_23 : decode cX12_isMet 23 = .ok (.iconst 1, 1) := dB_3_1_22.2.2.2.1
theorem dX12_isMet_24 : decode cX12_isMet 24 = .ok (.goto 4, 3) := dB_3_1_22.2.2.2.2
theorem dB_3_1_23 : ((((decode cX12_isMet 27 = .ok (.iconst 0, 1)) ∧ (decode cX12_isMet 28 = .ok (.ior, 1))) ∧ ((decode cX12_isMet 29 = .ok (.istore_n 3, 1)) ∧ (decode cX12_isMet 30 = .ok (.iinc 4 1, 3)))) ∧ (((decode cX12_isMet 33 = .ok (.goto (-28), 3)) ∧ (decode cX12_isMet 36 = .ok (.iload_n 3, 1))) ∧ ((decode cX12_isMet 37 = .ok (.ireturn, 1)) ∧ (decode cX12_hasWay 0 = .ok (.aload_n 0, 1))))) ∧ ((((decode cX12_hasWay 1 = .ok (.getfield 64, 3)) ∧ (decode cX12_hasWay 4 = .ok (.iconst 0, 1))) ∧ ((decode cX12_hasWay 5 = .ok (.iload_n 1, 1)) ∧ (decode cX12_hasWay 6 = .ok (.iastore, 1)))) ∧ (((decode cX12_hasWay 7 = .ok (.iconst 1, 1)) ∧ (decode cX12_hasWay 8 = .ok (.istore_n 3, 1))) ∧ ((decode cX12_hasWay 9 = .ok (.iconst 0, 1)) ∧ (decode cX12_hasWay 10 = .ok (.istore 4, 2))))) := by first | decide +kernel | ((repeat' apply And.intro) <;> decide +kernel)
theorem dX12_isMet_27 : decode cX12_isMet 27 = .ok (.iconst 0, 1) := dB_3_1_23.1.1.1.1
theorem dX12_isMet_28 : decode cX12_isMet 28 = .ok (.ior, 1) := dB_3_1_23.1.1.1.2
theorem dX12_isMet_29 : decode cX12_isMet 29 = .ok (.istore_n 3, 1) := dB_3_1_23.1.1.2.1
theorem dX12_isMet_30 : decode cX12_isMet 30 = .ok (.iinc 4 1, 3) := dB_3_1_23.1.1.2.2
theorem dX12_isMet_33 : decode cX12_isMet 33 = .ok (.goto (-28), 3) := dB_3_1_23.1.2.1.1
theorem dX12_isMet_36 : decode cX12_isMet 36 = .ok (.iload_n 3, 1) := dB_3_1_23.1.2.1.2
theorem dX12_isMet_37 : decode cX12_isMet 37 = .ok (.ireturn, 1) := dB_3_1_23.1.2.2.1
theorem dX12_hasWay_0 : decode cX12_hasWay 0 = .ok (.aload_n 0, 1) := dB_3_1_23.1.2.2.2
theorem dX12_hasWay_1 : decode cX12_hasWay 1 = .ok (.getfield 64, 3) := dB_3_1_23.2.1.1.1
theorem dX12_hasWay_4 : decode cX12_hasWay 4 = .ok (.iconst 0, 1) := dB_3_1_23.2.1.1.2
theorem dX12_hasWay_5 : decode cX12_hasWay 5 = .ok (.iload_n 1, 1) := dB_3_1_23.2.1.2.1
theorem dX12_hasWay_6 : decode cX12_hasWay 6 = .ok (.iastore, 1) := dB_3_1_23.2.1.2.2
theorem dX12_hasWay_7 : decode cX12_hasWay 7 = .ok (.iconst 1, 1) := dB_3_1_23.2.2.1.1
theorem dX12_hasWay_8 : decode cX12_hasWay 8 = .ok (.istore_n 3, 1) := dB_3_1_23.2.2.1.2
theorem dX12_hasWay_9 : decode cX12_hasWay 9 = .ok (.iconst 0, 1) := dB_3_1_23.2.2.2.1
theorem dX12_hasWay_10 : decode cX12_hasWay 10 = .ok (.istore 4, 2) := dB_3_1_23.2.2.2.2
theorem dB_3_1_24 : ((((decode cX12_hasWay 12 = .ok (.iload 4, 2)) ∧ (decode cX12_hasWay 14 = .ok (.iload_n 3, 1))) ∧ ((decode cX12_hasWay 15 = .ok (.if_icmp .ge 86, 3)) ∧ (decode cX12_hasWay 18 = .ok (.iconst 0, 1)))) ∧ (((decode cX12_hasWay 19 = .ok (.istore 5, 2)) ∧ (decode cX12_hasWay 21 = .ok (.iload 5, 2))) ∧ ((decode cX12_hasWay 23 = .ok (.aload_n 0, 1)) ∧ (decode cX12_hasWay 24 = .ok (.getfield 88, 3))))) ∧ ((((decode cX12_hasWay 27 = .ok (.if_icmp .ge 68, 3)) ∧ (decode cX12_hasWay 30 = .ok (.aload_n 0, 1))) ∧ ((decode cX12_hasWay 31 = .ok (.iload 5, 2)) ∧ (decode cX12_hasWay 33 = .ok (.iload_n 3, 1)))) ∧ (((decode cX12_hasWay 34 = .ok (.invokevirtual 177, 3)) ∧ (decode cX12_hasWay 37 = .ok (.ifCond .ne 52, 3))) ∧ ((decode cX12_hasWay 40 = .ok (.aload_n 0, 1)) ∧ (decode cX12_hasWay 41 = .ok (.aload_n 0, 1))))) := by first | decide +kernel | ((repeat' apply And.intro) <;> decide +kernel)
theorem dX12_hasWay_12 : decode cX12_hasWay 12 = .ok (.iload 4, 2) := dB_3_1_24.1.1.1.1
theorem dX12_hasWay_14 : decode cX12_hasWay 14 = .ok (.iload_n 3, 1) := dB_3_1_24.1.1.1.2
theorem dX12_hasWay_15 : decode cX12_hasWay 15 = .ok (.if_icmp .ge 86, 3) := dB_3_1_24.1.1.2.1
theorem dX12_hasWay_18 : decode cX12_hasWay 18 = .ok (.iconst 0, 1) := dB_3_1_24.1.1.2.2
theorem dX12_hasWay_19 : decode cX12_hasWay 19 = .ok (.istore 5, 2) := dB_3_1_24.1.2.1.1
theorem dX12_hasWay_21 : decode cX12_hasWay 21 = .ok (.iload 5, 2) := dB_3_1_24.1.2.1.2
theorem dX12_hasWay_23 : decode cX12_hasWay 23 = .ok (.aload_n 0, 1) := dB_3_1_24.1.2.2.1
theorem dX12_hasWay_24 : decode cX12_hasWay 24 = .ok (.getfield 88, 3) := dB_3_1_24.1.2.2.2
theorem dX12_hasWay_27 : decode cX12_hasWay 27 = .ok (.if_icmp .ge 68, 3) := dB_3_1_24.2.1.1.1
theorem dX12_hasWay_30 : decode cX12_hasWay 30 = .ok (.aload_n 0, 1) := dB_3_1_24.2.1.1.2
theorem dX12_hasWay_31 : decode cX12_hasWay 31 = .ok (.iload 5, 2) := dB_3_1_24.2.1.2.1
theorem dX12_hasWay_33 : decode cX12_hasWay 33 = .ok (.iload_n 3, 1) := dB_3_1_24.2.1.2.2
theorem dX12_hasWay_34 : decode cX12_hasWay 34 = .ok (.invokevirtual 177, 3) := dB_3_1_24.2.2.1.1
theorem dX12_hasWay_37 : decode cX12_hasWay 37 = .ok (.ifCond .ne 52, 3) := dB_3_1_24.2.2.1.2
theorem dX12_hasWay_40 : decode cX12_hasWay 40 = .ok (.aload_n 0, 1) := dB_3_1_24.2.2.2.1
theorem dX12_hasWay_41 : decode cX12_hasWay 41 = .ok (.aload_n 0, 1) := dB_3_1_24.2.2.2.2
theorem dB_3_1_25 : ((((decode cX12_hasWay 42 = .ok (.getfield 64, 3)) ∧ (decode cX12_hasWay 45 = .ok (.iload 4, 2))) ∧ ((decode cX12_hasWay 47 = .ok (.iaload, 1)) ∧ (decode cX12_hasWay 48 = .ok (.iload 5, 2)))) ∧ (((decode cX12_hasWay 50 = .ok (.invokevirtual 180, 3)) ∧ (decode cX12_hasWay 53 = .ok (.ifCond .le 36, 3))) ∧ ((decode cX12_hasWay 56 = .ok (.aload_n 0, 1)) ∧ (decode cX12_hasWay 57 = .ok (.getfield 64, 3))))) ∧ ((((decode cX12_hasWay 60 = .ok (.iload_n 3, 1)) ∧ (decode cX12_hasWay 61 = .ok (.iload 5, 2))) ∧ ((decode cX12_hasWay 63 = .ok (.iastore, 1)) ∧ (decode cX12_hasWay 64 = .ok (.iinc 3 1, 3)))) ∧ (((decode cX12_hasWay 67 = .ok (.aload_n 0, 1)) ∧ (decode cX12_hasWay 68 = .ok (.getfield 67, 3))) ∧ ((decode cX12_hasWay 71 = .ok (.iload 5, 2)) ∧ (decode cX12_hasWay 73 = .ok (.aload_n 0, 1))))) := by first | decide +kernel | ((repeat' apply And.intro) <;> decide +kernel)
theorem dX12_hasWay_42 : decode cX12_hasWay 42 = .ok (.getfield 64, 3) := dB_3_1_25.1.1.1.1
theorem dX12_hasWay_45 : decode cX12_hasWay 45 = .ok (.iload 4, 2) := dB_3_1_25.1.1.1.2
theorem dX12_hasWay_47 : decode cX12_hasWay 47 = .ok (.iaload, 1) := dB_3_1_25.1.1.2.1
theorem dX12_hasWay_48 : decode cX12_hasWay 48 = .ok (.iload 5, 2) := dB_3_1_25.1.1.2.2
theorem dX12_hasWay_50 : decode cX12_hasWay 50 = .ok (.invokevirtual 180, 3) := dB_3_1_25.1.2.1.1
theorem dX12_hasWay_53 : decode cX12_hasWay 53 = .ok (.ifCond .le 36, 3) := dB_3_1_25.1.2.1.2
theorem dX12_hasWay_56 : decode cX12_hasWay 56 = .ok (.aload_n 0, 1) := dB_3_1_25.1.2.2.1
theorem dX12_hasWay_57 : decode cX12_hasWay 57 = .ok (.getfield 64, 3) := dB_3_1_25.1.2.2.2
theorem dX12_hasWay_60 : decode cX12_hasWay 60 = .ok (.iload_n 3, 1) := dB_3_1_25.2.1.1.1
theorem dX12_hasWay_61 : decode cX12_hasWay 61 = .ok (.iload 5, 2) := dB_3_1_25.2.1.1.2
theorem dX12_hasWay_63 : decode cX12_hasWay 63 = .ok (.iastore, 1) := dB_3_1_25.2.1.2.1
theorem dX12_hasWay_64 : decode cX12_hasWay 64 = .ok (.iinc 3 1, 3) := dB_3_1_25.2.1.2.2
theorem dX12_hasWay_67 : decode cX12_hasWay 67 = .ok (.aload_n 0, 1) := dB_3_1_25.2.2.1.1
theorem dX12_hasWay_68 : decode cX12_hasWay 68 = .ok (.getfield 67, 3) := dB_3_1_25.2.2.1.2
theorem dX12_hasWay_71 : decode cX12_hasWay 71 = .ok (.iload 5, 2) := dB_3_1_25.2.2.2.1
theorem dX12_hasWay_73 : decode cX12_hasWay 73 = .ok (.aload_n 0, 1) := dB_3_1_25.2.2.2.2
theorem dB_3_1_26 : ((((decode cX12_hasWay 74 = .ok (.getfield 64, 3)) ∧ (decode cX12_hasWay 77 = .ok (.iload 4, 2))) ∧ ((decode cX12_hasWay 79 = .ok (.iaload, 1)) ∧ (decode cX12_hasWay 80 = .ok (.iastore, 1)))) ∧ (((decode cX12_hasWay 81 = .ok (.iload 5, 2)) ∧ (decode cX12_hasWay 83 = .ok (.iload_n 2, 1))) ∧ ((decode cX12_hasWay 84 = .ok (.if_icmp .ne 5, 3)) ∧ (decode cX12_hasWay 87 = .ok (.iconst 1, 1))))) ∧ ((((decode cX12_hasWay 88 = .ok (.ireturn, 1)) ∧ (decode cX12_hasWay 89 = .ok (.iinc 5 1, 3))) ∧ ((decode cX12_hasWay 92 = .ok (.goto (-71), 3)) ∧ (decode cX12_hasWay 95 = .ok (.iinc 4 1, 3)))) ∧ (((decode cX12_hasWay 98 = .ok (.goto (-86), 3)) ∧ (decode cX12_hasWay 101 = .ok (.iconst 0, 1))) ∧ ((decode cX12_hasWay 102 = .ok (.ireturn, 1)) ∧ (decode cX12_flowOf 0 = .ok (.iconst 0, 1))))) := by first | decide +kernel | ((repeat' apply And.intro) <;> decide +kernel)
theorem dX12_hasWay_74 : decode cX12_hasWay 74 = .ok (.getfield 64, 3) := dB_3_1_26.1.1.1.1
theorem dX12_hasWay_77 : decode cX12_hasWay 77 = .ok (.iload 4, 2) := dB_3_1_26.1.1.1.2
theorem dX12_hasWay_79 : decode cX12_hasWay 79 = .ok (.iaload, 1) := dB_3_1_26.1.1.2.1
theorem dX12_hasWay_80 : decode cX12_hasWay 80 = .ok (.iastore, 1) := dB_3_1_26.1.1.2.2
theorem dX12_hasWay_81 : decode cX12_hasWay 81 = .ok (.iload 5, 2) := dB_3_1_26.1.2.1.1
theorem dX12_hasWay_83 : decode cX12_hasWay 83 = .ok (.iload_n 2, 1) := dB_3_1_26.1.2.1.2
theorem dX12_hasWay_84 : decode cX12_hasWay 84 = .ok (.if_icmp .ne 5, 3) := dB_3_1_26.1.2.2.1
theorem dX12_hasWay_87 : decode cX12_hasWay 87 = .ok (.iconst 1, 1) := dB_3_1_26.1.2.2.2
theorem dX12_hasWay_88 : decode cX12_hasWay 88 = .ok (.ireturn, 1) := dB_3_1_26.2.1.1.1
theorem dX12_hasWay_89 : decode cX12_hasWay 89 = .ok (.iinc 5 1, 3) := dB_3_1_26.2.1.1.2
theorem dX12_hasWay_92 : decode cX12_hasWay 92 = .ok (.goto (-71), 3) := dB_3_1_26.2.1.2.1
theorem dX12_hasWay_95 : decode cX12_hasWay 95 = .ok (.iinc 4 1, 3) := dB_3_1_26.2.1.2.2
theorem dX12_hasWay_98 : decode cX12_hasWay 98 = .ok (.goto (-86), 3) := dB_3_1_26.2.2.1.1
theorem dX12_hasWay_101 : decode cX12_hasWay 101 = .ok (.iconst 0, 1) := dB_3_1_26.2.2.1.2
theorem dX12_hasWay_102 : decode cX12_hasWay 102 = .ok (.ireturn, 1) := dB_3_1_26.2.2.2.1
theorem dX12_flowOf_0 : decode cX12_flowOf 0 = .ok (.iconst 0, 1) := dB_3_1_26.2.2.2.2
theorem dB_3_1_27 : ((((decode cX12_flowOf 1 = .ok (.istore_n 3, 1)) ∧ (decode cX12_flowOf 2 = .ok (.iload_n 3, 1))) ∧ ((decode cX12_flowOf 3 = .ok (.bipush 40, 2)) ∧ (decode cX12_flowOf 5 = .ok (.if_icmp .ge 16, 3)))) ∧ (((decode cX12_flowOf 8 = .ok (.aload_n 0, 1)) ∧ (decode cX12_flowOf 9 = .ok (.getfield 61, 3))) ∧ ((decode cX12_flowOf 12 = .ok (.iload_n 3, 1)) ∧ (decode cX12_flowOf 13 = .ok (.iconst 0, 1))))) ∧ ((((decode cX12_flowOf 14 = .ok (.iastore, 1)) ∧ (decode cX12_flowOf 15 = .ok (.iinc 3 1, 3))) ∧ ((decode cX12_flowOf 18 = .ok (.goto (-16), 3)) ∧ (decode cX12_flowOf 21 = .ok (.aload_n 0, 1)))) ∧ (((decode cX12_flowOf 22 = .ok (.iload_n 1, 1)) ∧ (decode cX12_flowOf 23 = .ok (.iload_n 2, 1))) ∧ ((decode cX12_flowOf 24 = .ok (.invokevirtual 183, 3)) ∧ (decode cX12_flowOf 27 = .ok (.ifCond .eq 233, 3))))) := by first | decide +kernel | ((repeat' apply And.intro) <;> decide +kernel)
theorem dX12_flowOf_1 : decode cX12_flowOf 1 = .ok (.istore_n 3, 1) := dB_3_1_27.1.1.1.1
theorem dX12_flowOf_2 : decode cX12_flowOf 2 = .ok (.iload_n 3, 1) := dB_3_1_27.1.1.1.2
theorem dX12_flowOf_3 : decode cX12_flowOf 3 = .ok (.bipush 40, 2) := dB_3_1_27.1.1.2.1
theorem dX12_flowOf_5 : decode cX12_flowOf 5 = .ok (.if_icmp .ge 16, 3) := dB_3_1_27.1.1.2.2
theorem dX12_flowOf_8 : decode cX12_flowOf 8 = .ok (.aload_n 0, 1) := dB_3_1_27.1.2.1.1
theorem dX12_flowOf_9 : decode cX12_flowOf 9 = .ok (.getfield 61, 3) := dB_3_1_27.1.2.1.2
theorem dX12_flowOf_12 : decode cX12_flowOf 12 = .ok (.iload_n 3, 1) := dB_3_1_27.1.2.2.1
theorem dX12_flowOf_13 : decode cX12_flowOf 13 = .ok (.iconst 0, 1) := dB_3_1_27.1.2.2.2
theorem dX12_flowOf_14 : decode cX12_flowOf 14 = .ok (.iastore, 1) := dB_3_1_27.2.1.1.1
theorem dX12_flowOf_15 : decode cX12_flowOf 15 = .ok (.iinc 3 1, 3) := dB_3_1_27.2.1.1.2
theorem dX12_flowOf_18 : decode cX12_flowOf 18 = .ok (.goto (-16), 3) := dB_3_1_27.2.1.2.1
theorem dX12_flowOf_21 : decode cX12_flowOf 21 = .ok (.aload_n 0, 1) := dB_3_1_27.2.1.2.2
theorem dX12_flowOf_22 : decode cX12_flowOf 22 = .ok (.iload_n 1, 1) := dB_3_1_27.2.2.1.1
theorem dX12_flowOf_23 : decode cX12_flowOf 23 = .ok (.iload_n 2, 1) := dB_3_1_27.2.2.1.2
theorem dX12_flowOf_24 : decode cX12_flowOf 24 = .ok (.invokevirtual 183, 3) := dB_3_1_27.2.2.2.1
theorem dX12_flowOf_27 : decode cX12_flowOf 27 = .ok (.ifCond .eq 233, 3) := dB_3_1_27.2.2.2.2
theorem dB_3_1_28 : ((((decode cX12_flowOf 30 = .ok (.ldc 186, 2)) ∧ (decode cX12_flowOf 32 = .ok (.istore_n 3, 1))) ∧ ((decode cX12_flowOf 33 = .ok (.iload_n 2, 1)) ∧ (decode cX12_flowOf 34 = .ok (.istore 4, 2)))) ∧ (((decode cX12_flowOf 36 = .ok (.iload 4, 2)) ∧ (decode cX12_flowOf 38 = .ok (.iload_n 1, 1))) ∧ ((decode cX12_flowOf 39 = .ok (.if_icmp .eq 43, 3)) ∧ (decode cX12_flowOf 42 = .ok (.aload_n 0, 1))))) ∧ ((((decode cX12_flowOf 43 = .ok (.aload_n 0, 1)) ∧ (decode cX12_flowOf 44 = .ok (.getfield 67, 3))) ∧ ((decode cX12_flowOf 47 = .ok (.iload 4, 2)) ∧ (decode cX12_flowOf 49 = .ok (.iaload, 1)))) ∧ (((decode cX12_flowOf 50 = .ok (.iload 4, 2)) ∧ (decode cX12_flowOf 52 = .ok (.invokevirtual 180, 3))) ∧ ((decode cX12_flowOf 55 = .ok (.istore 5, 2)) ∧ (decode cX12_flowOf 57 = .ok (.iload 5, 2))))) := by first | decide +kernel | ((repeat' apply And.intro) <;> decide +kernel)
theorem dX12_flowOf_30 : decode cX12_flowOf 30 = .ok (.ldc 186, 2) := dB_3_1_28.1.1.1.1
theorem dX12_flowOf_32 : decode cX12_flowOf 32 = .ok (.istore_n 3, 1) := dB_3_1_28.1.1.1.2
theorem dX12_flowOf_33 : decode cX12_flowOf 33 = .ok (.iload_n 2, 1) := dB_3_1_28.1.1.2.1
theorem dX12_flowOf_34 : decode cX12_flowOf 34 = .ok (.istore 4, 2) := dB_3_1_28.1.1.2.2
theorem dX12_flowOf_36 : decode cX12_flowOf 36 = .ok (.iload 4, 2) := dB_3_1_28.1.2.1.1
theorem dX12_flowOf_38 : decode cX12_flowOf 38 = .ok (.iload_n 1, 1) := dB_3_1_28.1.2.1.2
theorem dX12_flowOf_39 : decode cX12_flowOf 39 = .ok (.if_icmp .eq 43, 3) := dB_3_1_28.1.2.2.1
theorem dX12_flowOf_42 : decode cX12_flowOf 42 = .ok (.aload_n 0, 1) := dB_3_1_28.1.2.2.2
theorem dX12_flowOf_43 : decode cX12_flowOf 43 = .ok (.aload_n 0, 1) := dB_3_1_28.2.1.1.1
theorem dX12_flowOf_44 : decode cX12_flowOf 44 = .ok (.getfield 67, 3) := dB_3_1_28.2.1.1.2
theorem dX12_flowOf_47 : decode cX12_flowOf 47 = .ok (.iload 4, 2) := dB_3_1_28.2.1.2.1
theorem dX12_flowOf_49 : decode cX12_flowOf 49 = .ok (.iaload, 1) := dB_3_1_28.2.1.2.2
theorem dX12_flowOf_50 : decode cX12_flowOf 50 = .ok (.iload 4, 2) := dB_3_1_28.2.2.1.1
theorem dX12_flowOf_52 : decode cX12_flowOf 52 = .ok (.invokevirtual 180, 3) := dB_3_1_28.2.2.1.2
theorem dX12_flowOf_55 : decode cX12_flowOf 55 = .ok (.istore 5, 2) := dB_3_1_28.2.2.2.1
theorem dX12_flowOf_57 : decode cX12_flowOf 57 = .ok (.iload 5, 2) := dB_3_1_28.2.2.2.2
theorem dB_3_1_29 : ((((decode cX12_flowOf 59 = .ok (.iload_n 3, 1)) ∧ (decode cX12_flowOf 60 = .ok (.if_icmp .ge 8, 3))) ∧ ((decode cX12_flowOf 63 = .ok (.iload 5, 2)) ∧ (decode cX12_flowOf 65 = .ok (.goto 4, 3)))) ∧ (((decode cX12_flowOf 68 = .ok (.iload_n 3, 1)) ∧ (decode cX12_flowOf 69 = .ok (.istore_n 3, 1))) ∧ ((decode cX12_flowOf 70 = .ok (.aload_n 0, 1)) ∧ (decode cX12_flowOf 71 = .ok (.getfield 67, 3))))) ∧ ((((decode cX12_flowOf 74 = .ok (.iload 4, 2)) ∧ (decode cX12_flowOf 76 = .ok (.iaload, 1))) ∧ ((decode cX12_flowOf 77 = .ok (.istore 4, 2)) ∧ (decode cX12_flowOf 79 = .ok (.goto (-43), 3)))) ∧ (((decode cX12_flowOf 82 = .ok (.iload_n 2, 1)) ∧ (decode cX12_flowOf 83 = .ok (.istore 4, 2))) ∧ ((decode cX12_flowOf 85 = .ok (.iload 4, 2)) ∧ (decode cX12_flowOf 87 = .ok (.iload_n 1, 1))))) := by first | decide +kernel | ((repeat' apply And.intro) <;> decide +kernel)
theorem dX12_flowOf_59 : decode cX12_flowOf 59 = .ok (.iload_n 3, 1) := dB_3_1_29.1.1.1.1
theorem dX12_flowOf_60 : decode cX12_flowOf 60 = .ok (.if_icmp .ge 8, 3) := dB_3_1_29.1.1.1.2
theorem dX12_flowOf_63 : decode cX12_flowOf 63 = .ok (.iload 5, 2) := dB_3_1_29.1.1.2.1
theorem dX12_flowOf_65 : decode cX12_flowOf 65 = .ok (.goto 4, 3) := dB_3_1_29.1.1.2.2
theorem dX12_flowOf_68 : decode cX12_flowOf 68 = .ok (.iload_n 3, 1) := dB_3_1_29.1.2.1.1
theorem dX12_flowOf_69 : decode cX12_flowOf 69 = .ok (.istore_n 3, 1) := dB_3_1_29.1.2.1.2
theorem dX12_flowOf_70 : decode cX12_flowOf 70 = .ok (.aload_n 0, 1) := dB_3_1_29.1.2.2.1
theorem dX12_flowOf_71 : decode cX12_flowOf 71 = .ok (.getfield 67, 3) := dB_3_1_29.1.2.2.2
theorem dX12_flowOf_74 : decode cX12_flowOf 74 = .ok (.iload 4, 2) := dB_3_1_29.2.1.1.1
theorem dX12_flowOf_76 : decode cX12_flowOf 76 = .ok (.iaload, 1) := dB_3_1_29.2.1.1.2
theorem dX12_flowOf_77 : decode cX12_flowOf 77 = .ok (.istore 4, 2) := dB_3_1_29.2.1.2.1
theorem dX12_flowOf_79 : decode cX12_flowOf 79 = .ok (.goto (-43), 3) := dB_3_1_29.2.1.2.2
theorem dX12_flowOf_82 : decode cX12_flowOf 82 = .ok (.iload_n 2, 1) := dB_3_1_29.2.2.1.1
theorem dX12_flowOf_83 : decode cX12_flowOf 83 = .ok (.istore 4, 2) := dB_3_1_29.2.2.1.2
theorem dX12_flowOf_85 : decode cX12_flowOf 85 = .ok (.iload 4, 2) := dB_3_1_29.2.2.2.1
theorem dX12_flowOf_87 : decode cX12_flowOf 87 = .ok (.iload_n 1, 1) := dB_3_1_29.2.2.2.2
theorem dB_3_1_30 : ((((decode cX12_flowOf 88 = .ok (.if_icmp .eq 169, 3)) ∧ (decode cX12_flowOf 91 = .ok (.aload_n 0, 1))) ∧ ((decode cX12_flowOf 92 = .ok (.getfield 67, 3)) ∧ (decode cX12_flowOf 95 = .ok (.iload 4, 2)))) ∧ (((decode cX12_flowOf 97 = .ok (.iaload, 1)) ∧ (decode cX12_flowOf 98 = .ok (.istore 5, 2))) ∧ ((decode cX12_flowOf 100 = .ok (.iload_n 3, 1)) ∧ (decode cX12_flowOf 101 = .ok (.istore 6, 2))))) ∧ ((((decode cX12_flowOf 103 = .ok (.iconst 0, 1)) ∧ (decode cX12_flowOf 104 = .ok (.istore 7, 2))) ∧ ((decode cX12_flowOf 106 = .ok (.iload 7, 2)) ∧ (decode cX12_flowOf 108 = .ok (.aload_n 0, 1)))) ∧ (((decode cX12_flowOf 109 = .ok (.getfield 95, 3)) ∧ (decode cX12_flowOf 112 = .ok (.if_icmp .ge 133, 3))) ∧ ((decode cX12_flowOf 115 = .ok (.iload 6, 2)) ∧ (decode cX12_flowOf 117 = .ok (.ifCond .le 128, 3))))) := by first | decide +kernel | ((repeat' apply And.intro) <;> decide +kernel)
theorem dX12_flowOf_88 : decode cX12_flowOf 88 = .ok (.if_icmp .eq 169, 3) := dB_3_1_30.1.1.1.1
theorem dX12_flowOf_91 : decode cX12_flowOf 91 = .ok (.aload_n 0, 1) := dB_3_1_30.1.1.1.2
theorem dX12_flowOf_92 : decode cX12_flowOf 92 = .ok (.getfield 67, 3) := dB_3_1_30.1.1.2.1
theorem dX12_flowOf_95 : decode cX12_flowOf 95 = .ok (.iload 4, 2) := dB_3_1_30.1.1.2.2
theorem dX12_flowOf_97 : decode cX12_flowOf 97 = .ok (.iaload, 1) := dB_3_1_30.1.2.1.1
theorem dX12_flowOf_98 : decode cX12_flowOf 98 = .ok (.istore 5, 2) := dB_3_1_30.1.2.1.2
theorem dX12_flowOf_100 : decode cX12_flowOf 100 = .ok (.iload_n 3, 1) := dB_3_1_30.1.2.2.1
theorem dX12_flowOf_101 : decode cX12_flowOf 101 = .ok (.istore 6, 2) := dB_3_1_30.1.2.2.2
theorem dX12_flowOf_103 : decode cX12_flowOf 103 = .ok (.iconst 0, 1) := dB_3_1_30.2.1.1.1
theorem dX12_flowOf_104 : decode cX12_flowOf 104 = .ok (.istore 7, 2) := dB_3_1_30.2.1.1.2
theorem dX12_flowOf_106 : decode cX12_flowOf 106 = .ok (.iload 7, 2) := dB_3_1_30.2.1.2.1
theorem dX12_flowOf_108 : decode cX12_flowOf 108 = .ok (.aload_n 0, 1) := dB_3_1_30.2.1.2.2
theorem dX12_flowOf_109 : decode cX12_flowOf 109 = .ok (.getfield 95, 3) := dB_3_1_30.2.2.1.1
theorem dX12_flowOf_112 : decode cX12_flowOf 112 = .ok (.if_icmp .ge 133, 3) := dB_3_1_30.2.2.1.2
theorem dX12_flowOf_115 : decode cX12_flowOf 115 = .ok (.iload 6, 2) := dB_3_1_30.2.2.2.1
theorem dX12_flowOf_117 : decode cX12_flowOf 117 = .ok (.ifCond .le 128, 3) := dB_3_1_30.2.2.2.2
theorem dB_3_1_31 : ((((decode cX12_flowOf 120 = .ok (.aload_n 0, 1)) ∧ (decode cX12_flowOf 121 = .ok (.iload 7, 2))) ∧ ((decode cX12_flowOf 123 = .ok (.iload 5, 2)) ∧ (decode cX12_flowOf 125 = .ok (.iload 4, 2)))) ∧ (((decode cX12_flowOf 127 = .ok (.invokevirtual 173, 3)) ∧ (decode cX12_flowOf 130 = .ok (.istore 8, 2))) ∧ ((decode cX12_flowOf 132 = .ok (.iload 8, 2)) ∧ (decode cX12_flowOf 134 = .ok (.iload 6, 2))))) ∧ ((((decode cX12_flowOf 136 = .ok (.if_icmp .ge 8, 3)) ∧ (decode cX12_flowOf 139 = .ok (.iload 8, 2))) ∧ ((decode cX12_flowOf 141 = .ok (.goto 5, 3)) ∧ (decode cX12_flowOf 144 = .ok (.iload 6, 2)))) ∧ (((decode cX12_flowOf 146 = .ok (.istore 8, 2)) ∧ (decode cX12_flowOf 148 = .ok (.aload_n 0, 1))) ∧ ((decode cX12_flowOf 149 = .ok (.getfield 61, 3)) ∧ (decode cX12_flowOf 152 = .ok (.iload 7, 2))))) := by first | decide +kernel | ((repeat' apply And.intro) <;> decide +kernel)
theorem dX12_flowOf_120 : decode cX12_flowOf 120 = .ok (.aload_n 0, 1) := dB_3_1_31.1.1.1.1
theorem dX12_flowOf_121 : decode cX12_flowOf 121 = .ok (.iload 7, 2) := dB_3_1_31.1.1.1.2
theorem dX12_flowOf_123 : decode cX12_flowOf 123 = .ok (.iload 5, 2) := dB_3_1_31.1.1.2.1
theorem dX12_flowOf_125 : decode cX12_flowOf 125 = .ok (.iload 4, 2) := dB_3_1_31.1.1.2.2
theorem dX12_flowOf_127 : decode cX12_flowOf 127 = .ok (.invokevirtual 173, 3) := dB_3_1_31.1.2.1.1
theorem dX12_flowOf_130 : decode cX12_flowOf 130 = .ok (.istore 8, 2) := dB_3_1_31.1.2.1.2
theorem dX12_flowOf_132 : decode cX12_flowOf 132 = .ok (.iload 8, 2) := dB_3_1_31.1.2.2.1
theorem dX12_flowOf_134 : decode cX12_flowOf 134 = .ok (.iload 6, 2) := dB_3_1_31.1.2.2.2
theorem dX12_flowOf_136 : decode cX12_flowOf 136 = .ok (.if_icmp .ge 8, 3) := dB_3_1_31.2.1.1.1
theorem dX12_flowOf_139 : decode cX12_flowOf 139 = .ok (.iload 8, 2) := dB_3_1_31.2.1.1.2
theorem dX12_flowOf_141 : decode cX12_flowOf 141 = .ok (.goto 5, 3) := dB_3_1_31.2.1.2.1
theorem dX12_flowOf_144 : decode cX12_flowOf 144 = .ok (.iload 6, 2) := dB_3_1_31.2.1.2.2
theorem dX12_flowOf_146 : decode cX12_flowOf 146 = .ok (.istore 8, 2) := dB_3_1_31.2.2.1.1
theorem dX12_flowOf_148 : decode cX12_flowOf 148 = .ok (.aload_n 0, 1) := dB_3_1_31.2.2.1.2
theorem dX12_flowOf_149 : decode cX12_flowOf 149 = .ok (.getfield 61, 3) := dB_3_1_31.2.2.2.1
theorem dX12_flowOf_152 : decode cX12_flowOf 152 = .ok (.iload 7, 2) := dB_3_1_31.2.2.2.2
theorem dB_3_1_32 : ((((decode cX12_flowOf 154 = .ok (.dup2, 1)) ∧ (decode cX12_flowOf 155 = .ok (.iaload, 1))) ∧ ((decode cX12_flowOf 156 = .ok (.aload_n 0, 1)) ∧ (decode cX12_flowOf 157 = .ok (.getfield 25, 3)))) ∧ (((decode cX12_flowOf 160 = .ok (.iload 7, 2)) ∧ (decode cX12_flowOf 162 = .ok (.baload, 1))) ∧ ((decode cX12_flowOf 163 = .ok (.ifCond .eq 7, 3)) ∧ (decode cX12_flowOf 166 = .ok (.iconst 0, 1))))) ∧ ((((decode cX12_flowOf 167 = .ok (.goto 63, 3)) ∧ (decode cX12_flowOf 170 = .ok (.aload_n 0, 1))) ∧ ((decode cX12_flowOf 171 = .ok (.getfield 13, 3)) ∧ (decode cX12_flowOf 174 = .ok (.iload 7, 2)))) ∧ (((decode cX12_flowOf 176 = .ok (.iaload, 1)) ∧ (decode cX12_flowOf 177 = .ok (.iload 5, 2))) ∧ ((decode cX12_flowOf 179 = .ok (.if_icmp .ne 20, 3)) ∧ (decode cX12_flowOf 182 = .ok (.aload_n 0, 1))))) := by first | decide +kernel | ((repeat' apply And.intro) <;> decide +kernel)
theorem dX12_flowOf_154 : decode cX12_flowOf 154 = .ok (.dup2, 1) := dB_3_1_32.1.1.1.1
theorem dX12_flowOf_155 : decode cX12_flowOf 155 = .ok (.iaload, 1) := dB_3_1_32.1.1.1.2
theorem dX12_flowOf_156 : decode cX12_flowOf 156 = .ok (.aload_n 0, 1) := dB_3_1_32.1.1.2.1
theorem dX12_flowOf_157 : decode cX12_flowOf 157 = .ok (.getfield 25, 3) := dB_3_1_32.1.1.2.2
theorem dX12_flowOf_160 : decode cX12_flowOf 160 = .ok (.iload 7, 2) := dB_3_1_32.1.2.1.1
theorem dX12_flowOf_162 : decode cX12_flowOf 162 = .ok (.baload, 1) := dB_3_1_32.1.2.1.2
theorem dX12_flowOf_163 : decode cX12_flowOf 163 = .ok (.ifCond .eq 7, 3) := dB_3_1_32.1.2.2.1
theorem dX12_flowOf_166 : decode cX12_flowOf 166 = .ok (.iconst 0, 1) := dB_3_1_32.1.2.2.2
theorem dX12_flowOf_167 : decode cX12_flowOf 167 = .ok (.goto 63, 3) := dB_3_1_32.2.1.1.1
theorem dX12_flowOf_170 : decode cX12_flowOf 170 = .ok (.aload_n 0, 1) := dB_3_1_32.2.1.1.2
theorem dX12_flowOf_171 : decode cX12_flowOf 171 = .ok (.getfield 13, 3) := dB_3_1_32.2.1.2.1
theorem dX12_flowOf_174 : decode cX12_flowOf 174 = .ok (.iload 7, 2) := dB_3_1_32.2.1.2.2
theorem dX12_flowOf_176 : decode cX12_flowOf 176 = .ok (.iaload, 1) := dB_3_1_32.2.2.1.1
theorem dX12_flowOf_177 : decode cX12_flowOf 177 = .ok (.iload 5, 2) := dB_3_1_32.2.2.1.2
theorem dX12_flowOf_179 : decode cX12_flowOf 179 = .ok (.if_icmp .ne 20, 3) := dB_3_1_32.2.2.2.1
theorem dX12_flowOf_182 : decode cX12_flowOf 182 = .ok (.aload_n 0, 1) := dB_3_1_32.2.2.2.2
theorem dB_3_1_33 : ((((decode cX12_flowOf 183 = .ok (.getfield 16, 3)) ∧ (decode cX12_flowOf 186 = .ok (.iload 7, 2))) ∧ ((decode cX12_flowOf 188 = .ok (.iaload, 1)) ∧ (decode cX12_flowOf 189 = .ok (.iload 4, 2)))) ∧ (((decode cX12_flowOf 191 = .ok (.if_icmp .ne 8, 3)) ∧ (decode cX12_flowOf 194 = .ok (.iload 8, 2))) ∧ ((decode cX12_flowOf 196 = .ok (.goto 34, 3)) ∧ (decode cX12_flowOf 199 = .ok (.aload_n 0, 1))))) ∧ ((((decode cX12_flowOf 200 = .ok (.getfield 13, 3)) ∧ (decode cX12_flowOf 203 = .ok (.iload 7, 2))) ∧ ((decode cX12_flowOf 205 = .ok (.iaload, 1)) ∧ (decode cX12_flowOf 206 = .ok (.iload 4, 2)))) ∧ (((decode cX12_flowOf 208 = .ok (.if_icmp .ne 21, 3)) ∧ (decode cX12_flowOf 211 = .ok (.aload_n 0, 1))) ∧ ((decode cX12_flowOf 212 = .ok (.getfield 16, 3)) ∧ (decode cX12_flowOf 215 = .ok (.iload 7, 2))))) := by first | decide +kernel | ((repeat' apply And.intro) <;> decide +kernel)
theorem dX12_flowOf_183 : decode cX12_flowOf 183 = .ok (.getfield 16, 3) := dB_3_1_33.1.1.1.1
theorem dX12_flowOf_186 : decode cX12_flowOf 186 = .ok (.iload 7, 2) := dB_3_1_33.1.1.1.2
theorem dX12_flowOf_188 : decode cX12_flowOf 188 = .ok (.iaload, 1) := dB_3_1_33.1.1.2.1
theorem dX12_flowOf_189 : decode cX12_flowOf 189 = .ok (.iload 4, 2) := dB_3_1_33.1.1.2.2
theorem dX12_flowOf_191 : decode cX12_flowOf 191 = .ok (.if_icmp .ne 8, 3) := dB_3_1_33.1.2.1.1
theorem dX12_flowOf_194 : decode cX12_flowOf 194 = .ok (.iload 8, 2) := dB_3_1_33.1.2.1.2
theorem dX12_flowOf_196 : decode cX12_flowOf 196 = .ok (.goto 34, 3) := dB_3_1_33.1.2.2.1
theorem dX12_flowOf_199 : decode cX12_flowOf 199 = .ok (.aload_n 0, 1) := dB_3_1_33.1.2.2.2
theorem dX12_flowOf_200 : decode cX12_flowOf 200 = .ok (.getfield 13, 3) := dB_3_1_33.2.1.1.1
theorem dX12_flowOf_203 : decode cX12_flowOf 203 = .ok (.iload 7, 2) := dB_3_1_33.2.1.1.2
theorem dX12_flowOf_205 : decode cX12_flowOf 205 = .ok (.iaload, 1) := dB_3_1_33.2.1.2.1
theorem dX12_flowOf_206 : decode cX12_flowOf 206 = .ok (.iload 4, 2) := dB_3_1_33.2.1.2.2
theorem dX12_flowOf_208 : decode cX12_flowOf 208 = .ok (.if_icmp .ne 21, 3) := dB_3_1_33.2.2.1.1
theorem dX12_flowOf_211 : decode cX12_flowOf 211 = .ok (.aload_n 0, 1) := dB_3_1_33.2.2.1.2
theorem dX12_flowOf_212 : decode cX12_flowOf 212 = .ok (.getfield 16, 3) := dB_3_1_33.2.2.2.1
theorem dX12_flowOf_215 : decode cX12_flowOf 215 = .ok (.iload 7, 2) := dB_3_1_33.2.2.2.2
theorem dB_3_1_34 : ((((decode cX12_flowOf 217 = .ok (.iaload, 1)) ∧ (decode cX12_flowOf 218 = .ok (.iload 5, 2))) ∧ ((decode cX12_flowOf 220 = .ok (.if_icmp .ne 9, 3)) ∧ (decode cX12_flowOf 223 = .ok (.iload 8, 2)))) ∧ (((decode cX12_flowOf 225 = .ok (.ineg, 1)) ∧ (decode cX12_flowOf 226 = .ok (.goto 4, 3))) ∧ ((decode cX12_flowOf 229 = .ok (.iconst 0, 1)) ∧ (decode cX12_flowOf 230 = .ok (.iadd, 1))))) ∧ ((((decode cX12_flowOf 231 = .ok (.iastore, 1)) ∧ (decode cX12_flowOf 232 = .ok (.iload 6, 2))) ∧ ((decode cX12_flowOf 234 = .ok (.iload 8, 2)) ∧ (decode cX12_flowOf 236 = .ok (.isub, 1)))) ∧ (((decode cX12_flowOf 237 = .ok (.istore 6, 2)) ∧ (decode cX12_flowOf 239 = .ok (.iinc 7 1, 3))) ∧ ((decode cX12_flowOf 242 = .ok (.goto (-136), 3)) ∧ (decode cX12_flowOf 245 = .ok (.aload_n 0, 1))))) := by first | decide +kernel | ((repeat' apply And.intro) <;> decide +kernel)
theorem dX12_flowOf_217 : decode cX12_flowOf 217 = .ok (.iaload, 1) := dB_3_1_34.1.1.1.1
theorem dX12_flowOf_218 : decode cX12_flowOf 218 = .ok (.iload 5, 2) := dB_3_1_34.1.1.1.2
theorem dX12_flowOf_220 : decode cX12_flowOf 220 = .ok (.if_icmp .ne 9, 3) := dB_3_1_34.1.1.2.1
theorem dX12_flowOf_223 : decode cX12_flowOf 223 = .ok (.iload 8, 2) := dB_3_1_34.1.1.2.2
theorem dX12_flowOf_225 : decode cX12_flowOf 225 = .ok (.ineg, 1) := dB_3_1_34.1.2.1.1
theorem dX12_flowOf_226 : decode cX12_flowOf 226 = .ok (.goto 4, 3) := dB_3_1_34.1.2.1.2
theorem dX12_flowOf_229 : decode cX12_flowOf 229 = .ok (.iconst 0, 1) := dB_3_1_34.1.2.2.1
theorem dX12_flowOf_230 : decode cX12_flowOf 230 = .ok (.iadd, 1) := dB_3_1_34.1.2.2.2
theorem dX12_flowOf_231 : decode cX12_flowOf 231 = .ok (.iastore, 1) := dB_3_1_34.2.1.1.1
theorem dX12_flowOf_232 : decode cX12_flowOf 232 = .ok (.iload 6, 2) := dB_3_1_34.2.1.1.2
theorem dX12_flowOf_234 : decode cX12_flowOf 234 = .ok (.iload 8, 2) := dB_3_1_34.2.1.2.1
theorem dX12_flowOf_236 : decode cX12_flowOf 236 = .ok (.isub, 1) := dB_3_1_34.2.1.2.2
theorem dX12_flowOf_237 : decode cX12_flowOf 237 = .ok (.istore 6, 2) := dB_3_1_34.2.2.1.1
theorem dX12_flowOf_239 : decode cX12_flowOf 239 = .ok (.iinc 7 1, 3) := dB_3_1_34.2.2.1.2
theorem dX12_flowOf_242 : decode cX12_flowOf 242 = .ok (.goto (-136), 3) := dB_3_1_34.2.2.2.1
theorem dX12_flowOf_245 : decode cX12_flowOf 245 = .ok (.aload_n 0, 1) := dB_3_1_34.2.2.2.2
theorem dB_3_1_35 : ((((decode cX12_flowOf 246 = .ok (.getfield 67, 3)) ∧ (decode cX12_flowOf 249 = .ok (.iload 4, 2))) ∧ ((decode cX12_flowOf 251 = .ok (.iaload, 1)) ∧ (decode cX12_flowOf 252 = .ok (.istore 4, 2)))) ∧ (((decode cX12_flowOf 254 = .ok (.goto (-169), 3)) ∧ (decode cX12_flowOf 257 = .ok (.goto (-236), 3))) ∧ ((decode cX12_flowOf 260 = .ok (.return_, 1)) ∧ (decode cX12_flow 0 = .ok (.aload_n 0, 1))))) ∧ ((((decode cX12_flow 1 = .ok (.iconst 0, 1)) ∧ (decode cX12_flow 2 = .ok (.putfield 85, 3))) ∧ ((decode cX12_flow 5 = .ok (.aload_n 0, 1)) ∧ (decode cX12_flow 6 = .ok (.iload_n 1, 1)))) ∧ (((decode cX12_flow 7 = .ok (.iload_n 2, 1)) ∧ (decode cX12_flow 8 = .ok (.invokevirtual 143, 3))) ∧ ((decode cX12_flow 11 = .ok (.ifCond .eq 31, 3)) ∧ (decode cX12_flow 14 = .ok (.aload_n 0, 1))))) := by first | decide +kernel | ((repeat' apply And.intro) <;> decide +kernel)
theorem dX12_flowOf_246 : decode cX12_flowOf 246 = .ok (.getfield 67, 3) := dB_3_1_35.1.1.1.1
theorem dX12_flowOf_249 : decode cX12_flowOf 249 = .ok (.iload 4, 2) := dB_3_1_35.1.1.1.2
theorem dX12_flowOf_251 : decode cX12_flowOf 251 = .ok (.iaload, 1) := dB_3_1_35.1.1.2.1
theorem dX12_flowOf_252 : decode cX12_flowOf 252 = .ok (.istore 4, 2) := dB_3_1_35.1.1.2.2
theorem dX12_flowOf_254 : decode cX12_flowOf 254 = .ok (.goto (-169), 3) := dB_3_1_35.1.2.1.1
theorem dX12_flowOf_257 : decode cX12_flowOf 257 = .ok (.goto (-236), 3) := dB_3_1_35.1.2.1.2
theorem dX12_flowOf_260 : decode cX12_flowOf 260 = .ok (.return_, 1) := dB_3_1_35.1.2.2.1
theorem dX12_flow_0 : decode cX12_flow 0 = .ok (.aload_n 0, 1) := dB_3_1_35.1.2.2.2
theorem dX12_flow_1 : decode cX12_flow 1 = .ok (.iconst 0, 1) := dB_3_1_35.2.1.1.1
theorem dX12_flow_2 : decode cX12_flow 2 = .ok (.putfield 85, 3) := dB_3_1_35.2.1.1.2
theorem dX12_flow_5 : decode cX12_flow 5 = .ok (.aload_n 0, 1) := dB_3_1_35.2.1.2.1
theorem dX12_flow_6 : decode cX12_flow 6 = .ok (.iload_n 1, 1) := dB_3_1_35.2.1.2.2
theorem dX12_flow_7 : decode cX12_flow 7 = .ok (.iload_n 2, 1) := dB_3_1_35.2.2.1.1
theorem dX12_flow_8 : decode cX12_flow 8 = .ok (.invokevirtual 143, 3) := dB_3_1_35.2.2.1.2
theorem dX12_flow_11 : decode cX12_flow 11 = .ok (.ifCond .eq 31, 3) := dB_3_1_35.2.2.2.1
theorem dX12_flow_14 : decode cX12_flow 14 = .ok (.aload_n 0, 1) := dB_3_1_35.2.2.2.2
theorem dB_3_1_36 : ((((decode cX12_flow 15 = .ok (.iload_n 3, 1)) ∧ (decode cX12_flow 16 = .ok (.invokevirtual 132, 3))) ∧ ((decode cX12_flow 19 = .ok (.ifCond .eq 23, 3)) ∧ (decode cX12_flow 22 = .ok (.aload_n 0, 1)))) ∧ (((decode cX12_flow 23 = .ok (.getfield 25, 3)) ∧ (decode cX12_flow 26 = .ok (.iload_n 3, 1))) ∧ ((decode cX12_flow 27 = .ok (.baload, 1)) ∧ (decode cX12_flow 28 = .ok (.ifCond .ne 14, 3))))) ∧ ((((decode cX12_flow 31 = .ok (.aload_n 0, 1)) ∧ (decode cX12_flow 32 = .ok (.iload_n 1, 1))) ∧ ((decode cX12_flow 33 = .ok (.iload_n 2, 1)) ∧ (decode cX12_flow 34 = .ok (.invokevirtual 166, 3)))) ∧ (((decode cX12_flow 37 = .ok (.ldc 159, 2)) ∧ (decode cX12_flow 39 = .ok (.if_icmp .ne 6, 3))) ∧ ((decode cX12_flow 42 = .ok (.ldc 187, 2)) ∧ (decode cX12_flow 44 = .ok (.ireturn, 1))))) := by first | decide +kernel | ((repeat' apply And.intro) <;> decide +kernel)
theorem dX12_flow_15 : decode cX12_flow 15 = .ok (.iload_n 3, 1) := dB_3_1_36.1.1.1.1
theorem dX12_flow_16 : decode cX12_flow 16 = .ok (.invokevirtual 132, 3) := dB_3_1_36.1.1.1.2
theorem dX12_flow_19 : decode cX12_flow 19 = .ok (.ifCond .eq 23, 3) := dB_3_1_36.1.1.2.1
theorem dX12_flow_22 : decode cX12_flow 22 = .ok (.aload_n 0, 1) := dB_3_1_36.1.1.2.2
theorem dX12_flow_23 : decode cX12_flow 23 = .ok (.getfield 25, 3) := dB_3_1_36.1.2.1.1
theorem dX12_flow_26 : decode cX12_flow 26 = .ok (.iload_n 3, 1) := dB_3_1_36.1.2.1.2
theorem dX12_flow_27 : decode cX12_flow 27 = .ok (.baload, 1) := dB_3_1_36.1.2.2.1
theorem dX12_flow_28 : decode cX12_flow 28 = .ok (.ifCond .ne 14, 3) := dB_3_1_36.1.2.2.2
theorem dX12_flow_31 : decode cX12_flow 31 = .ok (.aload_n 0, 1) := dB_3_1_36.2.1.1.1
theorem dX12_flow_32 : decode cX12_flow 32 = .ok (.iload_n 1, 1) := dB_3_1_36.2.1.1.2
theorem dX12_flow_33 : decode cX12_flow 33 = .ok (.iload_n 2, 1) := dB_3_1_36.2.1.2.1
theorem dX12_flow_34 : decode cX12_flow 34 = .ok (.invokevirtual 166, 3) := dB_3_1_36.2.1.2.2
theorem dX12_flow_37 : decode cX12_flow 37 = .ok (.ldc 159, 2) := dB_3_1_36.2.2.1.1
theorem dX12_flow_39 : decode cX12_flow 39 = .ok (.if_icmp .ne 6, 3) := dB_3_1_36.2.2.1.2
theorem dX12_flow_42 : decode cX12_flow 42 = .ok (.ldc 187, 2) := dB_3_1_36.2.2.2.1
theorem dX12_flow_44 : decode cX12_flow 44 = .ok (.ireturn, 1) := dB_3_1_36.2.2.2.2
theorem dB_3_1_37 : ((((decode cX12_flow 45 = .ok (.aload_n 0, 1)) ∧ (decode cX12_flow 46 = .ok (.iload_n 1, 1))) ∧ ((decode cX12_flow 47 = .ok (.iload_n 2, 1)) ∧ (decode cX12_flow 48 = .ok (.invokevirtual 188, 3)))) ∧ (((decode cX12_flow 51 = .ok (.aload_n 0, 1)) ∧ (decode cX12_flow 52 = .ok (.getfield 61, 3))) ∧ ((decode cX12_flow 55 = .ok (.iload_n 3, 1)) ∧ (decode cX12_flow 56 = .ok (.iaload, 1))))) ∧ ((((decode cX12_flow 57 = .ok (.ireturn, 1)) ∧ (decode cX12_bitsOf 0 = .ok (.iconst 0, 1))) ∧ ((decode cX12_bitsOf 1 = .ok (.istore_n 1, 1)) ∧ (decode cX12_bitsOf 2 = .ok (.iconst 0, 1)))) ∧ (((decode cX12_bitsOf 3 = .ok (.istore_n 2, 1)) ∧ (decode cX12_bitsOf 4 = .ok (.iload_n 2, 1))) ∧ ((decode cX12_bitsOf 5 = .ok (.bipush 12, 2)) ∧ (decode cX12_bitsOf 7 = .ok (.if_icmp .ge 17, 3))))) := by first | decide +kernel | ((repeat' apply And.intro) <;> decide +kernel)
theorem dX12_flow_45 : decode cX12_flow 45 = .ok (.aload_n 0, 1) := dB_3_1_37.1.1.1.1
theorem dX12_flow_46 : decode cX12_flow 46 = .ok (.iload_n 1, 1) := dB_3_1_37.1.1.1.2
theorem dX12_flow_47 : decode cX12_flow 47 = .ok (.iload_n 2, 1) := dB_3_1_37.1.1.2.1
theorem dX12_flow_48 : decode cX12_flow 48 = .ok (.invokevirtual 188, 3) := dB_3_1_37.1.1.2.2
theorem dX12_flow_51 : decode cX12_flow 51 = .ok (.aload_n 0, 1) := dB_3_1_37.1.2.1.1
theorem dX12_flow_52 : decode cX12_flow 52 = .ok (.getfield 61, 3) := dB_3_1_37.1.2.1.2
theorem dX12_flow_55 : decode cX12_flow 55 = .ok (.iload_n 3, 1) := dB_3_1_37.1.2.2.1
theorem dX12_flow_56 : decode cX12_flow 56 = .ok (.iaload, 1) := dB_3_1_37.1.2.2.2
theorem dX12_flow_57 : decode cX12_flow 57 = .ok (.ireturn, 1) := dB_3_1_37.2.1.1.1
theorem dX12_bitsOf_0 : decode cX12_bitsOf 0 = .ok (.iconst 0, 1) := dB_3_1_37.2.1.1.2
theorem dX12_bitsOf_1 : decode cX12_bitsOf 1 = .ok (.istore_n 1, 1) := dB_3_1_37.2.1.2.1
theorem dX12_bitsOf_2 : decode cX12_bitsOf 2 = .ok (.iconst 0, 1) := dB_3_1_37.2.1.2.2
theorem dX12_bitsOf_3 : decode cX12_bitsOf 3 = .ok (.istore_n 2, 1) := dB_3_1_37.2.2.1.1
theorem dX12_bitsOf_4 : decode cX12_bitsOf 4 = .ok (.iload_n 2, 1) := dB_3_1_37.2.2.1.2
theorem dX12_bitsOf_5 : decode cX12_bitsOf 5 = .ok (.bipush 12, 2) := dB_3_1_37.2.2.2.1
theorem dX12_bitsOf_7 : decode cX12_bitsOf 7 = .ok (.if_icmp .ge 17, 3) := dB_3_1_37.2.2.2.2
theorem dB_3_1_38 : ((((decode cX12_bitsOf 10 = .ok (.iload_n 1, 1)) ∧ (decode cX12_bitsOf 11 = .ok (.iload_n 0, 1))) ∧ ((decode cX12_bitsOf 12 = .ok (.iload_n 2, 1)) ∧ (decode cX12_bitsOf 13 = .ok (.ishr, 1)))) ∧ (((decode cX12_bitsOf 14 = .ok (.iconst 1, 1)) ∧ (decode cX12_bitsOf 15 = .ok (.iand, 1))) ∧ ((decode cX12_bitsOf 16 = .ok (.iadd, 1)) ∧ (decode cX12_bitsOf 17 = .ok (.istore_n 1, 1))))) ∧ ((((decode cX12_bitsOf 18 = .ok (.iinc 2 1, 3)) ∧ (decode cX12_bitsOf 21 = .ok (.goto (-17), 3))) ∧ ((decode cX12_bitsOf 24 = .ok (.iload_n 1, 1)) ∧ (decode cX12_bitsOf 25 = .ok (.ireturn, 1)))) ∧ (((decode cX12_cutsOf 0 = .ok (.aload_n 0, 1)) ∧ (decode cX12_cutsOf 1 = .ok (.iconst 0, 1))) ∧ ((decode cX12_cutsOf 2 = .ok (.putfield 192, 3)) ∧ (decode cX12_cutsOf 5 = .ok (.aload_n 0, 1))))) := by first | decide +kernel | ((repeat' apply And.intro) <;> decide +kernel)
theorem dX12_bitsOf_10 : decode cX12_bitsOf 10 = .ok (.iload_n 1, 1) := dB_3_1_38.1.1.1.1
theorem dX12_bitsOf_11 : decode cX12_bitsOf 11 = .ok (.iload_n 0, 1) := dB_3_1_38.1.1.1.2
theorem dX12_bitsOf_12 : decode cX12_bitsOf 12 = .ok (.iload_n 2, 1) := dB_3_1_38.1.1.2.1
theorem dX12_bitsOf_13 : decode cX12_bitsOf 13 = .ok (.ishr, 1) := dB_3_1_38.1.1.2.2
theorem dX12_bitsOf_14 : decode cX12_bitsOf 14 = .ok (.iconst 1, 1) := dB_3_1_38.1.2.1.1
theorem dX12_bitsOf_15 : decode cX12_bitsOf 15 = .ok (.iand, 1) := dB_3_1_38.1.2.1.2
theorem dX12_bitsOf_16 : decode cX12_bitsOf 16 = .ok (.iadd, 1) := dB_3_1_38.1.2.2.1
theorem dX12_bitsOf_17 : decode cX12_bitsOf 17 = .ok (.istore_n 1, 1) := dB_3_1_38.1.2.2.2
theorem dX12_bitsOf_18 : decode cX12_bitsOf 18 = .ok (.iinc 2 1, 3) := dB_3_1_38.2.1.1.1
theorem dX12_bitsOf_21 : decode cX12_bitsOf 21 = .ok (.goto (-17), 3) := dB_3_1_38.2.1.1.2
theorem dX12_bitsOf_24 : decode cX12_bitsOf 24 = .ok (.iload_n 1, 1) := dB_3_1_38.2.1.2.1
theorem dX12_bitsOf_25 : decode cX12_bitsOf 25 = .ok (.ireturn, 1) := dB_3_1_38.2.1.2.2
theorem dX12_cutsOf_0 : decode cX12_cutsOf 0 = .ok (.aload_n 0, 1) := dB_3_1_38.2.2.1.1
theorem dX12_cutsOf_1 : decode cX12_cutsOf 1 = .ok (.iconst 0, 1) := dB_3_1_38.2.2.1.2
theorem dX12_cutsOf_2 : decode cX12_cutsOf 2 = .ok (.putfield 192, 3) := dB_3_1_38.2.2.2.1
theorem dX12_cutsOf_5 : decode cX12_cutsOf 5 = .ok (.aload_n 0, 1) := dB_3_1_38.2.2.2.2
theorem dB_3_1_39 : ((((decode cX12_cutsOf 6 = .ok (.bipush (-9), 2)) ∧ (decode cX12_cutsOf 8 = .ok (.putfield 195, 3))) ∧ ((decode cX12_cutsOf 11 = .ok (.aload_n 0, 1)) ∧ (decode cX12_cutsOf 12 = .ok (.bipush (-9), 2)))) ∧ (((decode cX12_cutsOf 14 = .ok (.putfield 198, 3)) ∧ (decode cX12_cutsOf 17 = .ok (.aload_n 0, 1))) ∧ ((decode cX12_cutsOf 18 = .ok (.bipush (-9), 2)) ∧ (decode cX12_cutsOf 20 = .ok (.putfield 201, 3))))) ∧ ((((decode cX12_cutsOf 23 = .ok (.iconst 0, 1)) ∧ (decode cX12_cutsOf 24 = .ok (.istore 5, 2))) ∧ ((decode cX12_cutsOf 26 = .ok (.iload 5, 2)) ∧ (decode cX12_cutsOf 28 = .ok (.iconst 1, 1)))) ∧ (((decode cX12_cutsOf 29 = .ok (.aload_n 0, 1)) ∧ (decode cX12_cutsOf 30 = .ok (.getfield 88, 3))) ∧ ((decode cX12_cutsOf 33 = .ok (.ishl, 1)) ∧ (decode cX12_cutsOf 34 = .ok (.if_icmp .ge 144, 3))))) := by first | decide +kernel | ((repeat' apply And.intro) <;> decide +kernel)
theorem dX12_cutsOf_6 : decode cX12_cutsOf 6 = .ok (.bipush (-9), 2) := dB_3_1_39.1.1.1.1
theorem dX12_cutsOf_8 : decode cX12_cutsOf 8 = .ok (.putfield 195, 3) := dB_3_1_39.1.1.1.2
theorem dX12_cutsOf_11 : decode cX12_cutsOf 11 = .ok (.aload_n 0, 1) := dB_3_1_39.1.1.2.1
theorem dX12_cutsOf_12 : decode cX12_cutsOf 12 = .ok (.bipush (-9), 2) := dB_3_1_39.1.1.2.2
theorem dX12_cutsOf_14 : decode cX12_cutsOf 14 = .ok (.putfield 198, 3) := dB_3_1_39.1.2.1.1
theorem dX12_cutsOf_17 : decode cX12_cutsOf 17 = .ok (.aload_n 0, 1) := dB_3_1_39.1.2.1.2
theorem dX12_cutsOf_18 : decode cX12_cutsOf 18 = .ok (.bipush (-9), 2) := dB_3_1_39.1.2.2.1
theorem dX12_cutsOf_20 : decode cX12_cutsOf 20 = .ok (.putfield 201, 3) := dB_3_1_39.1.2.2.2
theorem dX12_cutsOf_23 : decode cX12_cutsOf 23 = .ok (.iconst 0, 1) := dB_3_1_39.2.1.1.1
theorem dX12_cutsOf_24 : decode cX12_cutsOf 24 = .ok (.istore 5, 2) := dB_3_1_39.2.1.1.2
theorem dX12_cutsOf_26 : decode cX12_cutsOf 26 = .ok (.iload 5, 2) := dB_3_1_39.2.1.2.1
theorem dX12_cutsOf_28 : decode cX12_cutsOf 28 = .ok (.iconst 1, 1) := dB_3_1_39.2.1.2.2
theorem dX12_cutsOf_29 : decode cX12_cutsOf 29 = .ok (.aload_n 0, 1) := dB_3_1_39.2.2.1.1
theorem dX12_cutsOf_30 : decode cX12_cutsOf 30 = .ok (.getfield 88, 3) := dB_3_1_39.2.2.1.2
theorem dX12_cutsOf_33 : decode cX12_cutsOf 33 = .ok (.ishl, 1) := dB_3_1_39.2.2.2.1
theorem dX12_cutsOf_34 : decode cX12_cutsOf 34 = .ok (.if_icmp .ge 144, 3) := dB_3_1_39.2.2.2.2
theorem dB_3_1_40 : ((((decode cX12_cutsOf 37 = .ok (.iload 5, 2)) ∧ (decode cX12_cutsOf 39 = .ok (.iload_n 1, 1))) ∧ ((decode cX12_cutsOf 40 = .ok (.ishr, 1)) ∧ (decode cX12_cutsOf 41 = .ok (.iconst 1, 1)))) ∧ (((decode cX12_cutsOf 42 = .ok (.iand, 1)) ∧ (decode cX12_cutsOf 43 = .ok (.iconst 1, 1))) ∧ ((decode cX12_cutsOf 44 = .ok (.if_icmp .ne 128, 3)) ∧ (decode cX12_cutsOf 47 = .ok (.iload 5, 2))))) ∧ ((((decode cX12_cutsOf 49 = .ok (.iload_n 2, 1)) ∧ (decode cX12_cutsOf 50 = .ok (.ishr, 1))) ∧ ((decode cX12_cutsOf 51 = .ok (.iconst 1, 1)) ∧ (decode cX12_cutsOf 52 = .ok (.iand, 1)))) ∧ (((decode cX12_cutsOf 53 = .ok (.ifCond .ne 119, 3)) ∧ (decode cX12_cutsOf 56 = .ok (.aload_n 0, 1))) ∧ ((decode cX12_cutsOf 57 = .ok (.iload 5, 2)) ∧ (decode cX12_cutsOf 59 = .ok (.invokevirtual 163, 3))))) := by first | decide +kernel | ((repeat' apply And.intro) <;> decide +kernel)
theorem dX12_cutsOf_37 : decode cX12_cutsOf 37 = .ok (.iload 5, 2) := dB_3_1_40.1.1.1.1
theorem dX12_cutsOf_39 : decode cX12_cutsOf 39 = .ok (.iload_n 1, 1) := dB_3_1_40.1.1.1.2
theorem dX12_cutsOf_40 : decode cX12_cutsOf 40 = .ok (.ishr, 1) := dB_3_1_40.1.1.2.1
theorem dX12_cutsOf_41 : decode cX12_cutsOf 41 = .ok (.iconst 1, 1) := dB_3_1_40.1.1.2.2
theorem dX12_cutsOf_42 : decode cX12_cutsOf 42 = .ok (.iand, 1) := dB_3_1_40.1.2.1.1
theorem dX12_cutsOf_43 : decode cX12_cutsOf 43 = .ok (.iconst 1, 1) := dB_3_1_40.1.2.1.2
theorem dX12_cutsOf_44 : decode cX12_cutsOf 44 = .ok (.if_icmp .ne 128, 3) := dB_3_1_40.1.2.2.1
theorem dX12_cutsOf_47 : decode cX12_cutsOf 47 = .ok (.iload 5, 2) := dB_3_1_40.1.2.2.2
theorem dX12_cutsOf_49 : decode cX12_cutsOf 49 = .ok (.iload_n 2, 1) := dB_3_1_40.2.1.1.1
theorem dX12_cutsOf_50 : decode cX12_cutsOf 50 = .ok (.ishr, 1) := dB_3_1_40.2.1.1.2
theorem dX12_cutsOf_51 : decode cX12_cutsOf 51 = .ok (.iconst 1, 1) := dB_3_1_40.2.1.2.1
theorem dX12_cutsOf_52 : decode cX12_cutsOf 52 = .ok (.iand, 1) := dB_3_1_40.2.1.2.2
theorem dX12_cutsOf_53 : decode cX12_cutsOf 53 = .ok (.ifCond .ne 119, 3) := dB_3_1_40.2.2.1.1
theorem dX12_cutsOf_56 : decode cX12_cutsOf 56 = .ok (.aload_n 0, 1) := dB_3_1_40.2.2.1.2
theorem dX12_cutsOf_57 : decode cX12_cutsOf 57 = .ok (.iload 5, 2) := dB_3_1_40.2.2.2.1
theorem dX12_cutsOf_59 : decode cX12_cutsOf 59 = .ok (.invokevirtual 163, 3) := dB_3_1_40.2.2.2.2
theorem dB_3_1_41 : ((((decode cX12_cutsOf 62 = .ok (.iload_n 3, 1)) ∧ (decode cX12_cutsOf 63 = .ok (.if_icmp .ne 109, 3))) ∧ ((decode cX12_cutsOf 66 = .ok (.aload_n 0, 1)) ∧ (decode cX12_cutsOf 67 = .ok (.aload_n 0, 1)))) ∧ (((decode cX12_cutsOf 68 = .ok (.getfield 195, 3)) ∧ (decode cX12_cutsOf 71 = .ok (.bipush (-9), 2))) ∧ ((decode cX12_cutsOf 73 = .ok (.if_icmp .eq 18, 3)) ∧ (decode cX12_cutsOf 76 = .ok (.iload 5, 2))))) ∧ ((((decode cX12_cutsOf 78 = .ok (.invokestatic 204, 3)) ∧ (decode cX12_cutsOf 81 = .ok (.aload_n 0, 1))) ∧ ((decode cX12_cutsOf 82 = .ok (.getfield 195, 3)) ∧ (decode cX12_cutsOf 85 = .ok (.invokestatic 204, 3)))) ∧ (((decode cX12_cutsOf 88 = .ok (.if_icmp .ge 8, 3)) ∧ (decode cX12_cutsOf 91 = .ok (.iload 5, 2))) ∧ ((decode cX12_cutsOf 93 = .ok (.goto 7, 3)) ∧ (decode cX12_cutsOf 96 = .ok (.aload_n 0, 1))))) := by first | decide +kernel | ((repeat' apply And.intro) <;> decide +kernel)
theorem dX12_cutsOf_62 : decode cX12_cutsOf 62 = .ok (.iload_n 3, 1) := dB_3_1_41.1.1.1.1
theorem dX12_cutsOf_63 : decode cX12_cutsOf 63 = .ok (.if_icmp .ne 109, 3) := dB_3_1_41.1.1.1.2
theorem dX12_cutsOf_66 : decode cX12_cutsOf 66 = .ok (.aload_n 0, 1) := dB_3_1_41.1.1.2.1
theorem dX12_cutsOf_67 : decode cX12_cutsOf 67 = .ok (.aload_n 0, 1) := dB_3_1_41.1.1.2.2
theorem dX12_cutsOf_68 : decode cX12_cutsOf 68 = .ok (.getfield 195, 3) := dB_3_1_41.1.2.1.1
theorem dX12_cutsOf_71 : decode cX12_cutsOf 71 = .ok (.bipush (-9), 2) := dB_3_1_41.1.2.1.2
theorem dX12_cutsOf_73 : decode cX12_cutsOf 73 = .ok (.if_icmp .eq 18, 3) := dB_3_1_41.1.2.2.1
theorem dX12_cutsOf_76 : decode cX12_cutsOf 76 = .ok (.iload 5, 2) := dB_3_1_41.1.2.2.2
theorem dX12_cutsOf_78 : decode cX12_cutsOf 78 = .ok (.invokestatic 204, 3) := dB_3_1_41.2.1.1.1
theorem dX12_cutsOf_81 : decode cX12_cutsOf 81 = .ok (.aload_n 0, 1) := dB_3_1_41.2.1.1.2
theorem dX12_cutsOf_82 : decode cX12_cutsOf 82 = .ok (.getfield 195, 3) := dB_3_1_41.2.1.2.1
theorem dX12_cutsOf_85 : decode cX12_cutsOf 85 = .ok (.invokestatic 204, 3) := dB_3_1_41.2.1.2.2
theorem dX12_cutsOf_88 : decode cX12_cutsOf 88 = .ok (.if_icmp .ge 8, 3) := dB_3_1_41.2.2.1.1
theorem dX12_cutsOf_91 : decode cX12_cutsOf 91 = .ok (.iload 5, 2) := dB_3_1_41.2.2.1.2
theorem dX12_cutsOf_93 : decode cX12_cutsOf 93 = .ok (.goto 7, 3) := dB_3_1_41.2.2.2.1
theorem dX12_cutsOf_96 : decode cX12_cutsOf 96 = .ok (.aload_n 0, 1) := dB_3_1_41.2.2.2.2
theorem dB_3_1_42 : ((((decode cX12_cutsOf 97 = .ok (.getfield 195, 3)) ∧ (decode cX12_cutsOf 100 = .ok (.putfield 195, 3))) ∧ ((decode cX12_cutsOf 103 = .ok (.aload_n 0, 1)) ∧ (decode cX12_cutsOf 104 = .ok (.aload_n 0, 1)))) ∧ (((decode cX12_cutsOf 105 = .ok (.getfield 198, 3)) ∧ (decode cX12_cutsOf 108 = .ok (.bipush (-9), 2))) ∧ ((decode cX12_cutsOf 110 = .ok (.if_icmp .eq 18, 3)) ∧ (decode cX12_cutsOf 113 = .ok (.iload 5, 2))))) ∧ ((((decode cX12_cutsOf 115 = .ok (.invokestatic 204, 3)) ∧ (decode cX12_cutsOf 118 = .ok (.aload_n 0, 1))) ∧ ((decode cX12_cutsOf 119 = .ok (.getfield 198, 3)) ∧ (decode cX12_cutsOf 122 = .ok (.invokestatic 204, 3)))) ∧ (((decode cX12_cutsOf 125 = .ok (.if_icmp .le 8, 3)) ∧ (decode cX12_cutsOf 128 = .ok (.iload 5, 2))) ∧ ((decode cX12_cutsOf 130 = .ok (.goto 7, 3)) ∧ (decode cX12_cutsOf 133 = .ok (.aload_n 0, 1))))) := by first | decide +kernel | ((repeat' apply And.intro) <;> decide +kernel)
theorem dX12_cutsOf_97 : decode cX12_cutsOf 97 = .ok (.getfield 195, 3) := dB_3_1_42.1.1.1.1
theorem dX12_cutsOf_100 : decode cX12_cutsOf 100 = .ok (.putfield 195, 3) := dB_3_1_42.1.1.1.2
theorem dX12_cutsOf_103 : decode cX12_cutsOf 103 = .ok (.aload_n 0, 1) := dB_3_1_42.1.1.2.1
theorem dX12_cutsOf_104 : decode cX12_cutsOf 104 = .ok (.aload_n 0, 1) := dB_3_1_42.1.1.2.2
theorem dX12_cutsOf_105 : decode cX12_cutsOf 105 = .ok (.getfield 198, 3) := dB_3_1_42.1.2.1.1
theorem dX12_cutsOf_108 : decode cX12_cutsOf 108 = .ok (.bipush (-9), 2) := dB_3_1_42.1.2.1.2
theorem dX12_cutsOf_110 : decode cX12_cutsOf 110 = .ok (.if_icmp .eq 18, 3) := dB_3_1_42.1.2.2.1
theorem dX12_cutsOf_113 : decode cX12_cutsOf 113 = .ok (.iload 5, 2) := dB_3_1_42.1.2.2.2
theorem dX12_cutsOf_115 : decode cX12_cutsOf 115 = .ok (.invokestatic 204, 3) := dB_3_1_42.2.1.1.1
theorem dX12_cutsOf_118 : decode cX12_cutsOf 118 = .ok (.aload_n 0, 1) := dB_3_1_42.2.1.1.2
theorem dX12_cutsOf_119 : decode cX12_cutsOf 119 = .ok (.getfield 198, 3) := dB_3_1_42.2.1.2.1
theorem dX12_cutsOf_122 : decode cX12_cutsOf 122 = .ok (.invokestatic 204, 3) := dB_3_1_42.2.1.2.2
theorem dX12_cutsOf_125 : decode cX12_cutsOf 125 = .ok (.if_icmp .le 8, 3) := dB_3_1_42.2.2.1.1
theorem dX12_cutsOf_128 : decode cX12_cutsOf 128 = .ok (.iload 5, 2) := dB_3_1_42.2.2.1.2
theorem dX12_cutsOf_130 : decode cX12_cutsOf 130 = .ok (.goto 7, 3) := dB_3_1_42.2.2.2.1
theorem dX12_cutsOf_133 : decode cX12_cutsOf 133 = .ok (.aload_n 0, 1) := dB_3_1_42.2.2.2.2
theorem dB_3_1_43 : ((((decode cX12_cutsOf 134 = .ok (.getfield 198, 3)) ∧ (decode cX12_cutsOf 137 = .ok (.putfield 198, 3))) ∧ ((decode cX12_cutsOf 140 = .ok (.aload_n 0, 1)) ∧ (decode cX12_cutsOf 141 = .ok (.aload_n 0, 1)))) ∧ (((decode cX12_cutsOf 142 = .ok (.getfield 192, 3)) ∧ (decode cX12_cutsOf 145 = .ok (.iload 4, 2))) ∧ ((decode cX12_cutsOf 147 = .ok (.if_icmp .ne 8, 3)) ∧ (decode cX12_cutsOf 150 = .ok (.iload 5, 2))))) ∧ ((((decode cX12_cutsOf 152 = .ok (.goto 7, 3)) ∧ (decode cX12_cutsOf 155 = .ok (.aload_n 0, 1))) ∧ ((decode cX12_cutsOf 156 = .ok (.getfield 201, 3)) ∧ (decode cX12_cutsOf 159 = .ok (.putfield 201, 3)))) ∧ (((decode cX12_cutsOf 162 = .ok (.aload_n 0, 1)) ∧ (decode cX12_cutsOf 163 = .ok (.dup, 1))) ∧ ((decode cX12_cutsOf 164 = .ok (.getfield 192, 3)) ∧ (decode cX12_cutsOf 167 = .ok (.iconst 1, 1))))) := by first | decide +kernel | ((repeat' apply And.intro) <;> decide +kernel)
theorem dX12_cutsOf_134 : decode cX12_cutsOf 134 = .ok (.getfield 198, 3) := dB_3_1_43.1.1.1.1
theorem dX12_cutsOf_137 : decode cX12_cutsOf 137 = .ok (.putfield 198, 3) := dB_3_1_43.1.1.1.2
theorem dX12_cutsOf_140 : decode cX12_cutsOf 140 = .ok (.aload_n 0, 1) := dB_3_1_43.1.1.2.1
theorem dX12_cutsOf_141 : decode cX12_cutsOf 141 = .ok (.aload_n 0, 1) := dB_3_1_43.1.1.2.2
theorem dX12_cutsOf_142 : decode cX12_cutsOf 142 = .ok (.getfield 192, 3) := dB_3_1_43.1.2.1.1
theorem dX12_cutsOf_145 : decode cX12_cutsOf 145 = .ok (.iload 4, 2) := dB_3_1_43.1.2.1.2
theorem dX12_cutsOf_147 : decode cX12_cutsOf 147 = .ok (.if_icmp .ne 8, 3) := dB_3_1_43.1.2.2.1
theorem dX12_cutsOf_150 : decode cX12_cutsOf 150 = .ok (.iload 5, 2) := dB_3_1_43.1.2.2.2
theorem dX12_cutsOf_152 : decode cX12_cutsOf 152 = .ok (.goto 7, 3) := dB_3_1_43.2.1.1.1
theorem dX12_cutsOf_155 : decode cX12_cutsOf 155 = .ok (.aload_n 0, 1) := dB_3_1_43.2.1.1.2
theorem dX12_cutsOf_156 : decode cX12_cutsOf 156 = .ok (.getfield 201, 3) := dB_3_1_43.2.1.2.1
theorem dX12_cutsOf_159 : decode cX12_cutsOf 159 = .ok (.putfield 201, 3) := dB_3_1_43.2.1.2.2
theorem dX12_cutsOf_162 : decode cX12_cutsOf 162 = .ok (.aload_n 0, 1) := dB_3_1_43.2.2.1.1
theorem dX12_cutsOf_163 : decode cX12_cutsOf 163 = .ok (.dup, 1) := dB_3_1_43.2.2.1.2
theorem dX12_cutsOf_164 : decode cX12_cutsOf 164 = .ok (.getfield 192, 3) := dB_3_1_43.2.2.2.1
theorem dX12_cutsOf_167 : decode cX12_cutsOf 167 = .ok (.iconst 1, 1) := dB_3_1_43.2.2.2.2
theorem dB_3_1_44 : ((((decode cX12_cutsOf 168 = .ok (.iadd, 1)) ∧ (decode cX12_cutsOf 169 = .ok (.putfield 192, 3))) ∧ ((decode cX12_cutsOf 172 = .ok (.iinc 5 1, 3)) ∧ (decode cX12_cutsOf 175 = .ok (.goto (-149), 3)))) ∧ (((decode cX12_cutsOf 178 = .ok (.return_, 1)) ∧ (decode cX12_cut 0 = .ok (.aload_n 0, 1))) ∧ ((decode cX12_cut 1 = .ok (.iconst 0, 1)) ∧ (decode cX12_cut 2 = .ok (.putfield 85, 3))))) ∧ ((((decode cX12_cut 5 = .ok (.aload_n 0, 1)) ∧ (decode cX12_cut 6 = .ok (.iload_n 1, 1))) ∧ ((decode cX12_cut 7 = .ok (.iload_n 2, 1)) ∧ (decode cX12_cut 8 = .ok (.invokevirtual 143, 3)))) ∧ (((decode cX12_cut 11 = .ok (.ifCond .eq 13, 3)) ∧ (decode cX12_cut 14 = .ok (.iload_n 3, 1))) ∧ ((decode cX12_cut 15 = .ok (.i2l, 1)) ∧ (decode cX12_cut 16 = .ok (.lconst 0, 1))))) := by first | decide +kernel | ((repeat' apply And.intro) <;> decide +kernel)
theorem dX12_cutsOf_168 : decode cX12_cutsOf 168 = .ok (.iadd, 1) := dB_3_1_44.1.1.1.1
theorem dX12_cutsOf_169 : decode cX12_cutsOf 169 = .ok (.putfield 192, 3) := dB_3_1_44.1.1.1.2
theorem dX12_cutsOf_172 : decode cX12_cutsOf 172 = .ok (.iinc 5 1, 3) := dB_3_1_44.1.1.2.1
theorem dX12_cutsOf_175 : decode cX12_cutsOf 175 = .ok (.goto (-149), 3) := dB_3_1_44.1.1.2.2
theorem dX12_cutsOf_178 : decode cX12_cutsOf 178 = .ok (.return_, 1) := dB_3_1_44.1.2.1.1
theorem dX12_cut_0 : decode cX12_cut 0 = .ok (.aload_n 0, 1) := dB_3_1_44.1.2.1.2
theorem dX12_cut_1 : decode cX12_cut 1 = .ok (.iconst 0, 1) := dB_3_1_44.1.2.2.1
theorem dX12_cut_2 : decode cX12_cut 2 = .ok (.putfield 85, 3) := dB_3_1_44.1.2.2.2
theorem dX12_cut_5 : decode cX12_cut 5 = .ok (.aload_n 0, 1) := dB_3_1_44.2.1.1.1
theorem dX12_cut_6 : decode cX12_cut 6 = .ok (.iload_n 1, 1) := dB_3_1_44.2.1.1.2
theorem dX12_cut_7 : decode cX12_cut 7 = .ok (.iload_n 2, 1) := dB_3_1_44.2.1.2.1
theorem dX12_cut_8 : decode cX12_cut 8 = .ok (.invokevirtual 143, 3) := dB_3_1_44.2.1.2.2
theorem dX12_cut_11 : decode cX12_cut 11 = .ok (.ifCond .eq 13, 3) := dB_3_1_44.2.2.1.1
theorem dX12_cut_14 : decode cX12_cut 14 = .ok (.iload_n 3, 1) := dB_3_1_44.2.2.1.2
theorem dX12_cut_15 : decode cX12_cut 15 = .ok (.i2l, 1) := dB_3_1_44.2.2.2.1
theorem dX12_cut_16 : decode cX12_cut 16 = .ok (.lconst 0, 1) := dB_3_1_44.2.2.2.2
theorem dB_3_1_45 : ((((decode cX12_cut 17 = .ok (.lconst 1, 1)) ∧ (decode cX12_cut 18 = .ok (.invokestatic 91, 3))) ∧ ((decode cX12_cut 21 = .ok (.ifCond .ne 5, 3)) ∧ (decode cX12_cut 24 = .ok (.iconst (-1), 1)))) ∧ (((decode cX12_cut 25 = .ok (.ireturn, 1)) ∧ (decode cX12_cut 26 = .ok (.aload_n 0, 1))) ∧ ((decode cX12_cut 27 = .ok (.iload_n 1, 1)) ∧ (decode cX12_cut 28 = .ok (.iload_n 2, 1))))) ∧ ((((decode cX12_cut 29 = .ok (.invokevirtual 166, 3)) ∧ (decode cX12_cut 32 = .ok (.istore 4, 2))) ∧ ((decode cX12_cut 34 = .ok (.iload 4, 2)) ∧ (decode cX12_cut 36 = .ok (.ldc 159, 2)))) ∧ (((decode cX12_cut 38 = .ok (.if_icmp .ne 6, 3)) ∧ (decode cX12_cut 41 = .ok (.bipush (-5), 2))) ∧ ((decode cX12_cut 43 = .ok (.ireturn, 1)) ∧ (decode cX12_cut 44 = .ok (.aload_n 0, 1))))) := by first | decide +kernel | ((repeat' apply And.intro) <;> decide +kernel)
theorem dX12_cut_17 : decode cX12_cut 17 = .ok (.lconst 1, 1) := dB_3_1_45.1.1.1.1
theorem dX12_cut_18 : decode cX12_cut 18 = .ok (.invokestatic 91, 3) := dB_3_1_45.1.1.1.2
theorem dX12_cut_21 : decode cX12_cut 21 = .ok (.ifCond .ne 5, 3) := dB_3_1_45.1.1.2.1
theorem dX12_cut_24 : decode cX12_cut 24 = .ok (.iconst (-1), 1) := dB_3_1_45.1.1.2.2
theorem dX12_cut_25 : decode cX12_cut 25 = .ok (.ireturn, 1) := dB_3_1_45.1.2.1.1
theorem dX12_cut_26 : decode cX12_cut 26 = .ok (.aload_n 0, 1) := dB_3_1_45.1.2.1.2
theorem dX12_cut_27 : decode cX12_cut 27 = .ok (.iload_n 1, 1) := dB_3_1_45.1.2.2.1
theorem dX12_cut_28 : decode cX12_cut 28 = .ok (.iload_n 2, 1) := dB_3_1_45.1.2.2.2
theorem dX12_cut_29 : decode cX12_cut 29 = .ok (.invokevirtual 166, 3) := dB_3_1_45.2.1.1.1
theorem dX12_cut_32 : decode cX12_cut 32 = .ok (.istore 4, 2) := dB_3_1_45.2.1.1.2
theorem dX12_cut_34 : decode cX12_cut 34 = .ok (.iload 4, 2) := dB_3_1_45.2.1.2.1
theorem dX12_cut_36 : decode cX12_cut 36 = .ok (.ldc 159, 2) := dB_3_1_45.2.1.2.2
theorem dX12_cut_38 : decode cX12_cut 38 = .ok (.if_icmp .ne 6, 3) := dB_3_1_45.2.2.1.1
theorem dX12_cut_41 : decode cX12_cut 41 = .ok (.bipush (-5), 2) := dB_3_1_45.2.2.1.2
theorem dX12_cut_43 : decode cX12_cut 43 = .ok (.ireturn, 1) := dB_3_1_45.2.2.2.1
theorem dX12_cut_44 : decode cX12_cut 44 = .ok (.aload_n 0, 1) := dB_3_1_45.2.2.2.2
theorem dB_3_1_46 : ((((decode cX12_cut 45 = .ok (.iload_n 1, 1)) ∧ (decode cX12_cut 46 = .ok (.iload_n 2, 1))) ∧ ((decode cX12_cut 47 = .ok (.iload 4, 2)) ∧ (decode cX12_cut 49 = .ok (.iconst 0, 1)))) ∧ (((decode cX12_cut 50 = .ok (.invokevirtual 207, 3)) ∧ (decode cX12_cut 53 = .ok (.iload_n 3, 1))) ∧ ((decode cX12_cut 54 = .ok (.ifCond .ne 10, 3)) ∧ (decode cX12_cut 57 = .ok (.aload_n 0, 1))))) ∧ ((((decode cX12_cut 58 = .ok (.getfield 195, 3)) ∧ (decode cX12_cut 61 = .ok (.goto 7, 3))) ∧ ((decode cX12_cut 64 = .ok (.aload_n 0, 1)) ∧ (decode cX12_cut 65 = .ok (.getfield 198, 3)))) ∧ (((decode cX12_cut 68 = .ok (.ireturn, 1)) ∧ (decode cX12_count 0 = .ok (.aload_n 0, 1))) ∧ ((decode cX12_count 1 = .ok (.iconst 0, 1)) ∧ (decode cX12_count 2 = .ok (.putfield 85, 3))))) := by first | decide +kernel | ((repeat' apply And.intro) <;> decide +kernel)
theorem dX12_cut_45 : decode cX12_cut 45 = .ok (.iload_n 1, 1) := dB_3_1_46.1.1.1.1
theorem dX12_cut_46 : decode cX12_cut 46 = .ok (.iload_n 2, 1) := dB_3_1_46.1.1.1.2
theorem dX12_cut_47 : decode cX12_cut 47 = .ok (.iload 4, 2) := dB_3_1_46.1.1.2.1
theorem dX12_cut_49 : decode cX12_cut 49 = .ok (.iconst 0, 1) := dB_3_1_46.1.1.2.2
theorem dX12_cut_50 : decode cX12_cut 50 = .ok (.invokevirtual 207, 3) := dB_3_1_46.1.2.1.1
theorem dX12_cut_53 : decode cX12_cut 53 = .ok (.iload_n 3, 1) := dB_3_1_46.1.2.1.2
theorem dX12_cut_54 : decode cX12_cut 54 = .ok (.ifCond .ne 10, 3) := dB_3_1_46.1.2.2.1
theorem dX12_cut_57 : decode cX12_cut 57 = .ok (.aload_n 0, 1) := dB_3_1_46.1.2.2.2
theorem dX12_cut_58 : decode cX12_cut 58 = .ok (.getfield 195, 3) := dB_3_1_46.2.1.1.1
theorem dX12_cut_61 : decode cX12_cut 61 = .ok (.goto 7, 3) := dB_3_1_46.2.1.1.2
theorem dX12_cut_64 : decode cX12_cut 64 = .ok (.aload_n 0, 1) := dB_3_1_46.2.1.2.1
theorem dX12_cut_65 : decode cX12_cut 65 = .ok (.getfield 198, 3) := dB_3_1_46.2.1.2.2
theorem dX12_cut_68 : decode cX12_cut 68 = .ok (.ireturn, 1) := dB_3_1_46.2.2.1.1
theorem dX12_count_0 : decode cX12_count 0 = .ok (.aload_n 0, 1) := dB_3_1_46.2.2.1.2
theorem dX12_count_1 : decode cX12_count 1 = .ok (.iconst 0, 1) := dB_3_1_46.2.2.2.1
theorem dX12_count_2 : decode cX12_count 2 = .ok (.putfield 85, 3) := dB_3_1_46.2.2.2.2
theorem dB_3_1_47 : ((((decode cX12_count 5 = .ok (.aload_n 0, 1)) ∧ (decode cX12_count 6 = .ok (.iload_n 1, 1))) ∧ ((decode cX12_count 7 = .ok (.iload_n 2, 1)) ∧ (decode cX12_count 8 = .ok (.invokevirtual 143, 3)))) ∧ (((decode cX12_count 11 = .ok (.ifCond .ne 5, 3)) ∧ (decode cX12_count 14 = .ok (.iconst (-1), 1))) ∧ ((decode cX12_count 15 = .ok (.ireturn, 1)) ∧ (decode cX12_count 16 = .ok (.aload_n 0, 1))))) ∧ ((((decode cX12_count 17 = .ok (.iload_n 1, 1)) ∧ (decode cX12_count 18 = .ok (.iload_n 2, 1))) ∧ ((decode cX12_count 19 = .ok (.invokevirtual 166, 3)) ∧ (decode cX12_count 22 = .ok (.istore_n 3, 1)))) ∧ (((decode cX12_count 23 = .ok (.iload_n 3, 1)) ∧ (decode cX12_count 24 = .ok (.ldc 159, 2))) ∧ ((decode cX12_count 26 = .ok (.if_icmp .ne 6, 3)) ∧ (decode cX12_count 29 = .ok (.bipush (-5), 2))))) := by first | decide +kernel | ((repeat' apply And.intro) <;> decide +kernel)
theorem dX12_count_5 : decode cX12_count 5 = .ok (.aload_n 0, 1) := dB_3_1_47.1.1.1.1
theorem dX12_count_6 : decode cX12_count 6 = .ok (.iload_n 1, 1) := dB_3_1_47.1.1.1.2
theorem dX12_count_7 : decode cX12_count 7 = .ok (.iload_n 2, 1) := dB_3_1_47.1.1.2.1
theorem dX12_count_8 : decode cX12_count 8 = .ok (.invokevirtual 143, 3) := dB_3_1_47.1.1.2.2
theorem dX12_count_11 : decode cX12_count 11 = .ok (.ifCond .ne 5, 3) := dB_3_1_47.1.2.1.1
theorem dX12_count_14 : decode cX12_count 14 = .ok (.iconst (-1), 1) := dB_3_1_47.1.2.1.2
theorem dX12_count_15 : decode cX12_count 15 = .ok (.ireturn, 1) := dB_3_1_47.1.2.2.1
theorem dX12_count_16 : decode cX12_count 16 = .ok (.aload_n 0, 1) := dB_3_1_47.1.2.2.2
theorem dX12_count_17 : decode cX12_count 17 = .ok (.iload_n 1, 1) := dB_3_1_47.2.1.1.1
theorem dX12_count_18 : decode cX12_count 18 = .ok (.iload_n 2, 1) := dB_3_1_47.2.1.1.2
theorem dX12_count_19 : decode cX12_count 19 = .ok (.invokevirtual 166, 3) := dB_3_1_47.2.1.2.1
theorem dX12_count_22 : decode cX12_count 22 = .ok (.istore_n 3, 1) := dB_3_1_47.2.1.2.2
theorem dX12_count_23 : decode cX12_count 23 = .ok (.iload_n 3, 1) := dB_3_1_47.2.2.1.1
theorem dX12_count_24 : decode cX12_count 24 = .ok (.ldc 159, 2) := dB_3_1_47.2.2.1.2
theorem dX12_count_26 : decode cX12_count 26 = .ok (.if_icmp .ne 6, 3) := dB_3_1_47.2.2.2.1
theorem dX12_count_29 : decode cX12_count 29 = .ok (.bipush (-5), 2) := dB_3_1_47.2.2.2.2
theorem dB_3_1_48 : ((((decode cX12_count 31 = .ok (.ireturn, 1)) ∧ (decode cX12_count 32 = .ok (.aload_n 0, 1))) ∧ ((decode cX12_count 33 = .ok (.iload_n 1, 1)) ∧ (decode cX12_count 34 = .ok (.iload_n 2, 1)))) ∧ (((decode cX12_count 35 = .ok (.iload_n 3, 1)) ∧ (decode cX12_count 36 = .ok (.iconst 0, 1))) ∧ ((decode cX12_count 37 = .ok (.invokevirtual 207, 3)) ∧ (decode cX12_count 40 = .ok (.aload_n 0, 1))))) ∧ ((((decode cX12_count 41 = .ok (.getfield 192, 3)) ∧ (decode cX12_count 44 = .ok (.ireturn, 1))) ∧ ((decode cX12_next 0 = .ok (.aload_n 0, 1)) ∧ (decode cX12_next 1 = .ok (.iconst 0, 1)))) ∧ (((decode cX12_next 2 = .ok (.putfield 85, 3)) ∧ (decode cX12_next 5 = .ok (.aload_n 0, 1))) ∧ ((decode cX12_next 6 = .ok (.iload_n 1, 1)) ∧ (decode cX12_next 7 = .ok (.iload_n 2, 1))))) := by first | decide +kernel | ((repeat' apply And.intro) <;> decide +kernel)
theorem dX12_count_31 : decode cX12_count 31 = .ok (.ireturn, 1) := dB_3_1_48.1.1.1.1
theorem dX12_count_32 : decode cX12_count 32 = .ok (.aload_n 0, 1) := dB_3_1_48.1.1.1.2
theorem dX12_count_33 : decode cX12_count 33 = .ok (.iload_n 1, 1) := dB_3_1_48.1.1.2.1
theorem dX12_count_34 : decode cX12_count 34 = .ok (.iload_n 2, 1) := dB_3_1_48.1.1.2.2
theorem dX12_count_35 : decode cX12_count 35 = .ok (.iload_n 3, 1) := dB_3_1_48.1.2.1.1
theorem dX12_count_36 : decode cX12_count 36 = .ok (.iconst 0, 1) := dB_3_1_48.1.2.1.2
theorem dX12_count_37 : decode cX12_count 37 = .ok (.invokevirtual 207, 3) := dB_3_1_48.1.2.2.1
theorem dX12_count_40 : decode cX12_count 40 = .ok (.aload_n 0, 1) := dB_3_1_48.1.2.2.2
theorem dX12_count_41 : decode cX12_count 41 = .ok (.getfield 192, 3) := dB_3_1_48.2.1.1.1
theorem dX12_count_44 : decode cX12_count 44 = .ok (.ireturn, 1) := dB_3_1_48.2.1.1.2
theorem dX12_next_0 : decode cX12_next 0 = .ok (.aload_n 0, 1) := dB_3_1_48.2.1.2.1
theorem dX12_next_1 : decode cX12_next 1 = .ok (.iconst 0, 1) := dB_3_1_48.2.1.2.2
theorem dX12_next_2 : decode cX12_next 2 = .ok (.putfield 85, 3) := dB_3_1_48.2.2.1.1
theorem dX12_next_5 : decode cX12_next 5 = .ok (.aload_n 0, 1) := dB_3_1_48.2.2.1.2
theorem dX12_next_6 : decode cX12_next 6 = .ok (.iload_n 1, 1) := dB_3_1_48.2.2.2.1
theorem dX12_next_7 : decode cX12_next 7 = .ok (.iload_n 2, 1) := dB_3_1_48.2.2.2.2
theorem dB_3_1_49 : ((((decode cX12_next 8 = .ok (.invokevirtual 143, 3)) ∧ (decode cX12_next 11 = .ok (.ifCond .eq 7, 3))) ∧ ((decode cX12_next 14 = .ok (.iload_n 3, 1)) ∧ (decode cX12_next 15 = .ok (.ifCond .ge 5, 3)))) ∧ (((decode cX12_next 18 = .ok (.iconst (-1), 1)) ∧ (decode cX12_next 19 = .ok (.ireturn, 1))) ∧ ((decode cX12_next 20 = .ok (.aload_n 0, 1)) ∧ (decode cX12_next 21 = .ok (.iload_n 1, 1))))) ∧ ((((decode cX12_next 22 = .ok (.iload_n 2, 1)) ∧ (decode cX12_next 23 = .ok (.invokevirtual 166, 3))) ∧ ((decode cX12_next 26 = .ok (.istore 4, 2)) ∧ (decode cX12_next 28 = .ok (.iload 4, 2)))) ∧ (((decode cX12_next 30 = .ok (.ldc 159, 2)) ∧ (decode cX12_next 32 = .ok (.if_icmp .ne 6, 3))) ∧ ((decode cX12_next 35 = .ok (.bipush (-5), 2)) ∧ (decode cX12_next 37 = .ok (.ireturn, 1))))) := by first | decide +kernel | ((repeat' apply And.intro) <;> decide +kernel)
theorem dX12_next_8 : decode cX12_next 8 = .ok (.invokevirtual 143, 3) := dB_3_1_49.1.1.1.1
theorem dX12_next_11 : decode cX12_next 11 = .ok (.ifCond .eq 7, 3) := dB_3_1_49.1.1.1.2
theorem dX12_next_14 : decode cX12_next 14 = .ok (.iload_n 3, 1) := dB_3_1_49.1.1.2.1
theorem dX12_next_15 : decode cX12_next 15 = .ok (.ifCond .ge 5, 3) := dB_3_1_49.1.1.2.2
theorem dX12_next_18 : decode cX12_next 18 = .ok (.iconst (-1), 1) := dB_3_1_49.1.2.1.1
theorem dX12_next_19 : decode cX12_next 19 = .ok (.ireturn, 1) := dB_3_1_49.1.2.1.2
theorem dX12_next_20 : decode cX12_next 20 = .ok (.aload_n 0, 1) := dB_3_1_49.1.2.2.1
theorem dX12_next_21 : decode cX12_next 21 = .ok (.iload_n 1, 1) := dB_3_1_49.1.2.2.2
theorem dX12_next_22 : decode cX12_next 22 = .ok (.iload_n 2, 1) := dB_3_1_49.2.1.1.1
theorem dX12_next_23 : decode cX12_next 23 = .ok (.invokevirtual 166, 3) := dB_3_1_49.2.1.1.2
theorem dX12_next_26 : decode cX12_next 26 = .ok (.istore 4, 2) := dB_3_1_49.2.1.2.1
theorem dX12_next_28 : decode cX12_next 28 = .ok (.iload 4, 2) := dB_3_1_49.2.1.2.2
theorem dX12_next_30 : decode cX12_next 30 = .ok (.ldc 159, 2) := dB_3_1_49.2.2.1.1
theorem dX12_next_32 : decode cX12_next 32 = .ok (.if_icmp .ne 6, 3) := dB_3_1_49.2.2.1.2
theorem dX12_next_35 : decode cX12_next 35 = .ok (.bipush (-5), 2) := dB_3_1_49.2.2.2.1
theorem dX12_next_37 : decode cX12_next 37 = .ok (.ireturn, 1) := dB_3_1_49.2.2.2.2
theorem dB_3_1_50 : ((((decode cX12_next 38 = .ok (.aload_n 0, 1)) ∧ (decode cX12_next 39 = .ok (.iload_n 1, 1))) ∧ ((decode cX12_next 40 = .ok (.iload_n 2, 1)) ∧ (decode cX12_next 41 = .ok (.iload 4, 2)))) ∧ (((decode cX12_next 43 = .ok (.iload_n 3, 1)) ∧ (decode cX12_next 44 = .ok (.invokevirtual 207, 3))) ∧ ((decode cX12_next 47 = .ok (.aload_n 0, 1)) ∧ (decode cX12_next 48 = .ok (.getfield 201, 3))))) ∧ ((((decode cX12_next 51 = .ok (.ireturn, 1)) ∧ (decode cX12_size 0 = .ok (.aload_n 0, 1))) ∧ ((decode cX12_size 1 = .ok (.iconst 0, 1)) ∧ (decode cX12_size 2 = .ok (.putfield 85, 3)))) ∧ (((decode cX12_size 5 = .ok (.aload_n 0, 1)) ∧ (decode cX12_size 6 = .ok (.iload_n 1, 1))) ∧ ((decode cX12_size 7 = .ok (.iload_n 2, 1)) ∧ (decode cX12_size 8 = .ok (.invokevirtual 143, 3))))) := by first | decide +kernel | ((repeat' apply And.intro) <;> decide +kernel)
theorem dX12_next_38 : decode cX12_next 38 = .ok (.aload_n 0, 1) := dB_3_1_50.1.1.1.1
theorem dX12_next_39 : decode cX12_next 39 = .ok (.iload_n 1, 1) := dB_3_1_50.1.1.1.2
theorem dX12_next_40 : decode cX12_next 40 = .ok (.iload_n 2, 1) := dB_3_1_50.1.1.2.1
theorem dX12_next_41 : decode cX12_next 41 = .ok (.iload 4, 2) := dB_3_1_50.1.1.2.2
theorem dX12_next_43 : decode cX12_next 43 = .ok (.iload_n 3, 1) := dB_3_1_50.1.2.1.1
theorem dX12_next_44 : decode cX12_next 44 = .ok (.invokevirtual 207, 3) := dB_3_1_50.1.2.1.2
theorem dX12_next_47 : decode cX12_next 47 = .ok (.aload_n 0, 1) := dB_3_1_50.1.2.2.1
theorem dX12_next_48 : decode cX12_next 48 = .ok (.getfield 201, 3) := dB_3_1_50.1.2.2.2
theorem dX12_next_51 : decode cX12_next 51 = .ok (.ireturn, 1) := dB_3_1_50.2.1.1.1
theorem dX12_size_0 : decode cX12_size 0 = .ok (.aload_n 0, 1) := dB_3_1_50.2.1.1.2
theorem dX12_size_1 : decode cX12_size 1 = .ok (.iconst 0, 1) := dB_3_1_50.2.1.2.1
theorem dX12_size_2 : decode cX12_size 2 = .ok (.putfield 85, 3) := dB_3_1_50.2.1.2.2
theorem dX12_size_5 : decode cX12_size 5 = .ok (.aload_n 0, 1) := dB_3_1_50.2.2.1.1
theorem dX12_size_6 : decode cX12_size 6 = .ok (.iload_n 1, 1) := dB_3_1_50.2.2.1.2
theorem dX12_size_7 : decode cX12_size 7 = .ok (.iload_n 2, 1) := dB_3_1_50.2.2.2.1
theorem dX12_size_8 : decode cX12_size 8 = .ok (.invokevirtual 143, 3) := dB_3_1_50.2.2.2.2
theorem dB_3_1_51 : ((((decode cX12_size 11 = .ok (.ifCond .ne 5, 3)) ∧ (decode cX12_size 14 = .ok (.iconst (-1), 1))) ∧ ((decode cX12_size 15 = .ok (.ireturn, 1)) ∧ (decode cX12_size 16 = .ok (.iconst 1, 1)))) ∧ (((decode cX12_size 17 = .ok (.aload_n 0, 1)) ∧ (decode cX12_size 18 = .ok (.getfield 88, 3))) ∧ ((decode cX12_size 21 = .ok (.ishl, 1)) ∧ (decode cX12_size 22 = .ok (.iconst 1, 1))))) ∧ ((((decode cX12_size 23 = .ok (.isub, 1)) ∧ (decode cX12_size 24 = .ok (.istore 4, 2))) ∧ ((decode cX12_size 26 = .ok (.aload_n 0, 1)) ∧ (decode cX12_size 27 = .ok (.iload_n 3, 1)))) ∧ (((decode cX12_size 28 = .ok (.iload 4, 2)) ∧ (decode cX12_size 30 = .ok (.iand, 1))) ∧ ((decode cX12_size 31 = .ok (.iconst 1, 1)) ∧ (decode cX12_size 32 = .ok (.iload_n 1, 1))))) := by first | decide +kernel | ((repeat' apply And.intro) <;> decide +kernel)
theorem dX12_size_11 : decode cX12_size 11 = .ok (.ifCond .ne 5, 3) := dB_3_1_51.1.1.1.1
theorem dX12_size_14 : decode cX12_size 14 = .ok (.iconst (-1), 1) := dB_3_1_51.1.1.1.2
theorem dX12_size_15 : decode cX12_size 15 = .ok (.ireturn, 1) := dB_3_1_51.1.1.2.1
theorem dX12_size_16 : decode cX12_size 16 = .ok (.iconst 1, 1) := dB_3_1_51.1.1.2.2
theorem dX12_size_17 : decode cX12_size 17 = .ok (.aload_n 0, 1) := dB_3_1_51.1.2.1.1
theorem dX12_size_18 : decode cX12_size 18 = .ok (.getfield 88, 3) := dB_3_1_51.1.2.1.2
theorem dX12_size_21 : decode cX12_size 21 = .ok (.ishl, 1) := dB_3_1_51.1.2.2.1
theorem dX12_size_22 : decode cX12_size 22 = .ok (.iconst 1, 1) := dB_3_1_51.1.2.2.2
theorem dX12_size_23 : decode cX12_size 23 = .ok (.isub, 1) := dB_3_1_51.2.1.1.1
theorem dX12_size_24 : decode cX12_size 24 = .ok (.istore 4, 2) := dB_3_1_51.2.1.1.2
theorem dX12_size_26 : decode cX12_size 26 = .ok (.aload_n 0, 1) := dB_3_1_51.2.1.2.1
theorem dX12_size_27 : decode cX12_size 27 = .ok (.iload_n 3, 1) := dB_3_1_51.2.1.2.2
theorem dX12_size_28 : decode cX12_size 28 = .ok (.iload 4, 2) := dB_3_1_51.2.2.1.1
theorem dX12_size_30 : decode cX12_size 30 = .ok (.iand, 1) := dB_3_1_51.2.2.1.2
theorem dX12_size_31 : decode cX12_size 31 = .ok (.iconst 1, 1) := dB_3_1_51.2.2.2.1
theorem dX12_size_32 : decode cX12_size 32 = .ok (.iload_n 1, 1) := dB_3_1_51.2.2.2.2
theorem dB_3_1_52 : ((((decode cX12_size 33 = .ok (.ishl, 1)) ∧ (decode cX12_size 34 = .ok (.ior, 1))) ∧ ((decode cX12_size 35 = .ok (.iconst 1, 1)) ∧ (decode cX12_size 36 = .ok (.iload_n 2, 1)))) ∧ (((decode cX12_size 37 = .ok (.ishl, 1)) ∧ (decode cX12_size 38 = .ok (.iconst (-1), 1))) ∧ ((decode cX12_size 39 = .ok (.ixor, 1)) ∧ (decode cX12_size 40 = .ok (.iand, 1))))) ∧ ((((decode cX12_size 41 = .ok (.invokevirtual 163, 3)) ∧ (decode cX12_size 44 = .ok (.invokestatic 170, 3))) ∧ ((decode cX12_size 47 = .ok (.ireturn, 1)) ∧ (decode cX12_raise 0 = .ok (.aload_n 0, 1)))) ∧ (((decode cX12_raise 1 = .ok (.iconst 0, 1)) ∧ (decode cX12_raise 2 = .ok (.putfield 85, 3))) ∧ ((decode cX12_raise 5 = .ok (.aload_n 0, 1)) ∧ (decode cX12_raise 6 = .ok (.iload_n 1, 1))))) := by first | decide +kernel | ((repeat' apply And.intro) <;> decide +kernel)
theorem dX12_size_33 : decode cX12_size 33 = .ok (.ishl, 1) := dB_3_1_52.1.1.1.1
theorem dX12_size_34 : decode cX12_size 34 = .ok (.ior, 1) := dB_3_1_52.1.1.1.2
theorem dX12_size_35 : decode cX12_size 35 = .ok (.iconst 1, 1) := dB_3_1_52.1.1.2.1
theorem dX12_size_36 : decode cX12_size 36 = .ok (.iload_n 2, 1) := dB_3_1_52.1.1.2.2
theorem dX12_size_37 : decode cX12_size 37 = .ok (.ishl, 1) := dB_3_1_52.1.2.1.1
theorem dX12_size_38 : decode cX12_size 38 = .ok (.iconst (-1), 1) := dB_3_1_52.1.2.1.2
theorem dX12_size_39 : decode cX12_size 39 = .ok (.ixor, 1) := dB_3_1_52.1.2.2.1
theorem dX12_size_40 : decode cX12_size 40 = .ok (.iand, 1) := dB_3_1_52.1.2.2.2
theorem dX12_size_41 : decode cX12_size 41 = .ok (.invokevirtual 163, 3) := dB_3_1_52.2.1.1.1
theorem dX12_size_44 : decode cX12_size 44 = .ok (.invokestatic 170, 3) := dB_3_1_52.2.1.1.2
theorem dX12_size_47 : decode cX12_size 47 = .ok (.ireturn, 1) := dB_3_1_52.2.1.2.1
theorem dX12_raise_0 : decode cX12_raise 0 = .ok (.aload_n 0, 1) := dB_3_1_52.2.1.2.2
theorem dX12_raise_1 : decode cX12_raise 1 = .ok (.iconst 0, 1) := dB_3_1_52.2.2.1.1
theorem dX12_raise_2 : decode cX12_raise 2 = .ok (.putfield 85, 3) := dB_3_1_52.2.2.1.2
theorem dX12_raise_5 : decode cX12_raise 5 = .ok (.aload_n 0, 1) := dB_3_1_52.2.2.2.1
theorem dX12_raise_6 : decode cX12_raise 6 = .ok (.iload_n 1, 1) := dB_3_1_52.2.2.2.2
theorem dB_3_1_53 : ((((decode cX12_raise 7 = .ok (.iload_n 2, 1)) ∧ (decode cX12_raise 8 = .ok (.invokevirtual 143, 3))) ∧ ((decode cX12_raise 11 = .ok (.ifCond .eq 11, 3)) ∧ (decode cX12_raise 14 = .ok (.aload_n 0, 1)))) ∧ (((decode cX12_raise 15 = .ok (.iload_n 3, 1)) ∧ (decode cX12_raise 16 = .ok (.invokevirtual 132, 3))) ∧ ((decode cX12_raise 19 = .ok (.ifCond .ne 5, 3)) ∧ (decode cX12_raise 22 = .ok (.iconst (-1), 1))))) ∧ ((((decode cX12_raise 23 = .ok (.ireturn, 1)) ∧ (decode cX12_raise 24 = .ok (.aload_n 0, 1))) ∧ ((decode cX12_raise 25 = .ok (.getfield 25, 3)) ∧ (decode cX12_raise 28 = .ok (.iload_n 3, 1)))) ∧ (((decode cX12_raise 29 = .ok (.baload, 1)) ∧ (decode cX12_raise 30 = .ok (.ifCond .eq 6, 3))) ∧ ((decode cX12_raise 33 = .ok (.bipush (-2), 2)) ∧ (decode cX12_raise 35 = .ok (.ireturn, 1))))) := by first | decide +kernel | ((repeat' apply And.intro) <;> decide +kernel)
theorem dX12_raise_7 : decode cX12_raise 7 = .ok (.iload_n 2, 1) := dB_3_1_53.1.1.1.1
theorem dX12_raise_8 : decode cX12_raise 8 = .ok (.invokevirtual 143, 3) := dB_3_1_53.1.1.1.2
theorem dX12_raise_11 : decode cX12_raise 11 = .ok (.ifCond .eq 11, 3) := dB_3_1_53.1.1.2.1
theorem dX12_raise_14 : decode cX12_raise 14 = .ok (.aload_n 0, 1) := dB_3_1_53.1.1.2.2
theorem dX12_raise_15 : decode cX12_raise 15 = .ok (.iload_n 3, 1) := dB_3_1_53.1.2.1.1
theorem dX12_raise_16 : decode cX12_raise 16 = .ok (.invokevirtual 132, 3) := dB_3_1_53.1.2.1.2
theorem dX12_raise_19 : decode cX12_raise 19 = .ok (.ifCond .ne 5, 3) := dB_3_1_53.1.2.2.1
theorem dX12_raise_22 : decode cX12_raise 22 = .ok (.iconst (-1), 1) := dB_3_1_53.1.2.2.2
theorem dX12_raise_23 : decode cX12_raise 23 = .ok (.ireturn, 1) := dB_3_1_53.2.1.1.1
theorem dX12_raise_24 : decode cX12_raise 24 = .ok (.aload_n 0, 1) := dB_3_1_53.2.1.1.2
theorem dX12_raise_25 : decode cX12_raise 25 = .ok (.getfield 25, 3) := dB_3_1_53.2.1.2.1
theorem dX12_raise_28 : decode cX12_raise 28 = .ok (.iload_n 3, 1) := dB_3_1_53.2.1.2.2
theorem dX12_raise_29 : decode cX12_raise 29 = .ok (.baload, 1) := dB_3_1_53.2.2.1.1
theorem dX12_raise_30 : decode cX12_raise 30 = .ok (.ifCond .eq 6, 3) := dB_3_1_53.2.2.1.2
theorem dX12_raise_33 : decode cX12_raise 33 = .ok (.bipush (-2), 2) := dB_3_1_53.2.2.2.1
theorem dX12_raise_35 : decode cX12_raise 35 = .ok (.ireturn, 1) := dB_3_1_53.2.2.2.2
theorem dB_3_1_54 : ((((decode cX12_raise 36 = .ok (.aload_n 0, 1)) ∧ (decode cX12_raise 37 = .ok (.iload_n 3, 1))) ∧ ((decode cX12_raise 38 = .ok (.putfield 57, 3)) ∧ (decode cX12_raise 41 = .ok (.aload_n 0, 1)))) ∧ (((decode cX12_raise 42 = .ok (.iload_n 1, 1)) ∧ (decode cX12_raise 43 = .ok (.iload_n 2, 1))) ∧ ((decode cX12_raise 44 = .ok (.invokevirtual 166, 3)) ∧ (decode cX12_raise 47 = .ok (.istore 4, 2))))) ∧ ((((decode cX12_raise 49 = .ok (.aload_n 0, 1)) ∧ (decode cX12_raise 50 = .ok (.bipush (-9), 2))) ∧ ((decode cX12_raise 52 = .ok (.putfield 57, 3)) ∧ (decode cX12_raise 55 = .ok (.iload 4, 2)))) ∧ (((decode cX12_raise 57 = .ok (.invokestatic 170, 3)) ∧ (decode cX12_raise 60 = .ok (.ireturn, 1))) ∧ ((decode cX12_step 0 = .ok (.iload_n 2, 1)) ∧ (decode cX12_step 1 = .ok (.ifCond .eq 12, 3))))) := by first | decide +kernel | ((repeat' apply And.intro) <;> decide +kernel)
theorem dX12_raise_36 : decode cX12_raise 36 = .ok (.aload_n 0, 1) := dB_3_1_54.1.1.1.1
theorem dX12_raise_37 : decode cX12_raise 37 = .ok (.iload_n 3, 1) := dB_3_1_54.1.1.1.2
theorem dX12_raise_38 : decode cX12_raise 38 = .ok (.putfield 57, 3) := dB_3_1_54.1.1.2.1
theorem dX12_raise_41 : decode cX12_raise 41 = .ok (.aload_n 0, 1) := dB_3_1_54.1.1.2.2
theorem dX12_raise_42 : decode cX12_raise 42 = .ok (.iload_n 1, 1) := dB_3_1_54.1.2.1.1
theorem dX12_raise_43 : decode cX12_raise 43 = .ok (.iload_n 2, 1) := dB_3_1_54.1.2.1.2
theorem dX12_raise_44 : decode cX12_raise 44 = .ok (.invokevirtual 166, 3) := dB_3_1_54.1.2.2.1
theorem dX12_raise_47 : decode cX12_raise 47 = .ok (.istore 4, 2) := dB_3_1_54.1.2.2.2
theorem dX12_raise_49 : decode cX12_raise 49 = .ok (.aload_n 0, 1) := dB_3_1_54.2.1.1.1
theorem dX12_raise_50 : decode cX12_raise 50 = .ok (.bipush (-9), 2) := dB_3_1_54.2.1.1.2
theorem dX12_raise_52 : decode cX12_raise 52 = .ok (.putfield 57, 3) := dB_3_1_54.2.1.2.1
theorem dX12_raise_55 : decode cX12_raise 55 = .ok (.iload 4, 2) := dB_3_1_54.2.1.2.2
theorem dX12_raise_57 : decode cX12_raise 57 = .ok (.invokestatic 170, 3) := dB_3_1_54.2.2.1.1
theorem dX12_raise_60 : decode cX12_raise 60 = .ok (.ireturn, 1) := dB_3_1_54.2.2.1.2
theorem dX12_step_0 : decode cX12_step 0 = .ok (.iload_n 2, 1) := dB_3_1_54.2.2.2.1
theorem dX12_step_1 : decode cX12_step 1 = .ok (.ifCond .eq 12, 3) := dB_3_1_54.2.2.2.2
theorem dB_3_1_55 : ((((decode cX12_step 4 = .ok (.aload_n 0, 1)) ∧ (decode cX12_step 5 = .ok (.getfield 61, 3))) ∧ ((decode cX12_step 8 = .ok (.iload_n 1, 1)) ∧ (decode cX12_step 9 = .ok (.iaload, 1)))) ∧ (((decode cX12_step 10 = .ok (.goto 10, 3)) ∧ (decode cX12_step 13 = .ok (.aload_n 0, 1))) ∧ ((decode cX12_step 14 = .ok (.getfield 61, 3)) ∧ (decode cX12_step 17 = .ok (.iload_n 1, 1))))) ∧ ((((decode cX12_step 18 = .ok (.iaload, 1)) ∧ (decode cX12_step 19 = .ok (.ineg, 1))) ∧ ((decode cX12_step 20 = .ok (.istore_n 3, 1)) ∧ (decode cX12_step 21 = .ok (.aload_n 0, 1)))) ∧ (((decode cX12_step 22 = .ok (.iload_n 1, 1)) ∧ (decode cX12_step 23 = .ok (.iload_n 2, 1))) ∧ ((decode cX12_step 24 = .ok (.invokevirtual 160, 3)) ∧ (decode cX12_step 27 = .ok (.istore 4, 2))))) := by first | decide +kernel | ((repeat' apply And.intro) <;> decide +kernel)
theorem dX12_step_4 : decode cX12_step 4 = .ok (.aload_n 0, 1) := dB_3_1_55.1.1.1.1
theorem dX12_step_5 : decode cX12_step 5 = .ok (.getfield 61, 3) := dB_3_1_55.1.1.1.2
theorem dX12_step_8 : decode cX12_step 8 = .ok (.iload_n 1, 1) := dB_3_1_55.1.1.2.1
theorem dX12_step_9 : decode cX12_step 9 = .ok (.iaload, 1) := dB_3_1_55.1.1.2.2
theorem dX12_step_10 : decode cX12_step 10 = .ok (.goto 10, 3) := dB_3_1_55.1.2.1.1
theorem dX12_step_13 : decode cX12_step 13 = .ok (.aload_n 0, 1) := dB_3_1_55.1.2.1.2
theorem dX12_step_14 : decode cX12_step 14 = .ok (.getfield 61, 3) := dB_3_1_55.1.2.2.1
theorem dX12_step_17 : decode cX12_step 17 = .ok (.iload_n 1, 1) := dB_3_1_55.1.2.2.2
theorem dX12_step_18 : decode cX12_step 18 = .ok (.iaload, 1) := dB_3_1_55.2.1.1.1
theorem dX12_step_19 : decode cX12_step 19 = .ok (.ineg, 1) := dB_3_1_55.2.1.1.2
theorem dX12_step_20 : decode cX12_step 20 = .ok (.istore_n 3, 1) := dB_3_1_55.2.1.2.1
theorem dX12_step_21 : decode cX12_step 21 = .ok (.aload_n 0, 1) := dB_3_1_55.2.1.2.2
theorem dX12_step_22 : decode cX12_step 22 = .ok (.iload_n 1, 1) := dB_3_1_55.2.2.1.1
theorem dX12_step_23 : decode cX12_step 23 = .ok (.iload_n 2, 1) := dB_3_1_55.2.2.1.2
theorem dX12_step_24 : decode cX12_step 24 = .ok (.invokevirtual 160, 3) := dB_3_1_55.2.2.2.1
theorem dX12_step_27 : decode cX12_step 27 = .ok (.istore 4, 2) := dB_3_1_55.2.2.2.2
theorem dB_3_1_56 : ((decode cX12_step 29 = .ok (.aload_n 0, 1)) ∧ (decode cX12_step 30 = .ok (.iload_n 1, 1))) ∧ ((decode cX12_step 31 = .ok (.iload_n 2, 1)) ∧ (decode cX12_step 32 = .ok (.ifCond .ne 7, 3))) := by first | decide +kernel | ((repeat' apply And.intro) <;> decide +kernel)
theorem dX12_step_29 : decode cX12_step 29 = .ok (.aload_n 0, 1) := dB_3_1_56.1.1
theorem dX12_step_30 : decode cX12_step 30 = .ok (.iload_n 1, 1) := dB_3_1_56.1.2
theorem dX12_step_31 : decode cX12_step 31 = .ok (.iload_n 2, 1) := dB_3_1_56.2.1
theorem dX12_step_32 : decode cX12_step 32 = .ok (.ifCond .ne 7, 3) := dB_3_1_56.2.2
