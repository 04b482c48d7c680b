theorem dB_36_4_0 : ((((decode cX11_numberRefusal 96 = .ok (.iload_n 3, 1)) ∧ (decode cX11_numberRefusal 97 = .ok (.iaload, 1))) ∧ ((decode cX11_numberRefusal 98 = .ok (.if_icmp .lt 8, 3)) ∧ (decode cX11_numberRefusal 101 = .ok (.bipush (-12), 2)))) ∧ (((decode cX11_numberRefusal 103 = .ok (.goto 4, 3)) ∧ (decode cX11_numberRefusal 106 = .ok (.iconst 0, 1))) ∧ ((decode cX11_numberRefusal 107 = .ok (.ireturn, 1)) ∧ (decode cX11_readRefusal 0 = .ok (.aload_n 1, 1))))) ∧ ((((decode cX11_readRefusal 1 = .ok (.getfield 321, 3)) ∧ (decode cX11_readRefusal 4 = .ok (.iload_n 2, 1))) ∧ ((decode cX11_readRefusal 5 = .ok (.iaload, 1)) ∧ (decode cX11_readRefusal 6 = .ok (.ifCond .ge 6, 3)))) ∧ (((decode cX11_readRefusal 9 = .ok (.bipush (-11), 2)) ∧ (decode cX11_readRefusal 11 = .ok (.ireturn, 1))) ∧ ((decode cX11_readRefusal 12 = .ok (.aload_n 1, 1)) ∧ (decode cX11_readRefusal 13 = .ok (.getfield 321, 3))))) := by first | decide +kernel | ((repeat' apply And.intro) <;> decide +kernel)
theorem dX11_numberRefusal_96 : decode cX11_numberRefusal 96 = .ok (.iload_n 3, 1) := dB_36_4_0.1.1.1.1
theorem dX11_numberRefusal_97 : decode cX11_numberRefusal 97 = .ok (.iaload, 1) := dB_36_4_0.1.1.1.2
theorem dX11_numberRefusal_98 : decode cX11_numberRefusal 98 = .ok (.if_icmp .lt 8, 3) := dB_36_4_0.1.1.2.1
theorem dX11_numberRefusal_101 : decode cX11_numberRefusal 101 = .ok (.bipush (-12), 2) := dB_36_4_0.1.1.2.2
theorem dX11_numberRefusal_103 : decode cX11_numberRefusal 103 = .ok (.goto 4, 3) := dB_36_4_0.1.2.1.1
theorem dX11_numberRefusal_106 : decode cX11_numberRefusal 106 = .ok (.iconst 0, 1) := dB_36_4_0.1.2.1.2
theorem dX11_numberRefusal_107 : decode cX11_numberRefusal 107 = .ok (.ireturn, 1) := dB_36_4_0.1.2.2.1
theorem dX11_readRefusal_0 : decode cX11_readRefusal 0 = .ok (.aload_n 1, 1) := dB_36_4_0.1.2.2.2
theorem dX11_readRefusal_1 : decode cX11_readRefusal 1 = .ok (.getfield 321, 3) := dB_36_4_0.2.1.1.1
theorem dX11_readRefusal_4 : decode cX11_readRefusal 4 = .ok (.iload_n 2, 1) := dB_36_4_0.2.1.1.2
theorem dX11_readRefusal_5 : decode cX11_readRefusal 5 = .ok (.iaload, 1) := dB_36_4_0.2.1.2.1
theorem dX11_readRefusal_6 : decode cX11_readRefusal 6 = .ok (.ifCond .ge 6, 3) := dB_36_4_0.2.1.2.2
theorem dX11_readRefusal_9 : decode cX11_readRefusal 9 = .ok (.bipush (-11), 2) := dB_36_4_0.2.2.1.1
theorem dX11_readRefusal_11 : decode cX11_readRefusal 11 = .ok (.ireturn, 1) := dB_36_4_0.2.2.1.2
theorem dX11_readRefusal_12 : decode cX11_readRefusal 12 = .ok (.aload_n 1, 1) := dB_36_4_0.2.2.2.1
theorem dX11_readRefusal_13 : decode cX11_readRefusal 13 = .ok (.getfield 321, 3) := dB_36_4_0.2.2.2.2
theorem dB_36_4_1 : ((((decode cX11_readRefusal 16 = .ok (.iload_n 2, 1)) ∧ (decode cX11_readRefusal 17 = .ok (.iaload, 1))) ∧ ((decode cX11_readRefusal 18 = .ok (.iconst 5, 1)) ∧ (decode cX11_readRefusal 19 = .ok (.if_icmp .ge 6, 3)))) ∧ (((decode cX11_readRefusal 22 = .ok (.bipush (-12), 2)) ∧ (decode cX11_readRefusal 24 = .ok (.ireturn, 1))) ∧ ((decode cX11_readRefusal 25 = .ok (.aload_n 0, 1)) ∧ (decode cX11_readRefusal 26 = .ok (.aload_n 1, 1))))) ∧ ((((decode cX11_readRefusal 27 = .ok (.iload_n 2, 1)) ∧ (decode cX11_readRefusal 28 = .ok (.iconst 0, 1))) ∧ ((decode cX11_readRefusal 29 = .ok (.invokevirtual 277, 3)) ∧ (decode cX11_readRefusal 32 = .ok (.aload_n 1, 1)))) ∧ (((decode cX11_readRefusal 33 = .ok (.iload_n 2, 1)) ∧ (decode cX11_readRefusal 34 = .ok (.iconst 1, 1))) ∧ ((decode cX11_readRefusal 35 = .ok (.invokevirtual 277, 3)) ∧ (decode cX11_readRefusal 38 = .ok (.aload_n 1, 1))))) := by first | decide +kernel | ((repeat' apply And.intro) <;> decide +kernel)
theorem dX11_readRefusal_16 : decode cX11_readRefusal 16 = .ok (.iload_n 2, 1) := dB_36_4_1.1.1.1.1
theorem dX11_readRefusal_17 : decode cX11_readRefusal 17 = .ok (.iaload, 1) := dB_36_4_1.1.1.1.2
theorem dX11_readRefusal_18 : decode cX11_readRefusal 18 = .ok (.iconst 5, 1) := dB_36_4_1.1.1.2.1
theorem dX11_readRefusal_19 : decode cX11_readRefusal 19 = .ok (.if_icmp .ge 6, 3) := dB_36_4_1.1.1.2.2
theorem dX11_readRefusal_22 : decode cX11_readRefusal 22 = .ok (.bipush (-12), 2) := dB_36_4_1.1.2.1.1
theorem dX11_readRefusal_24 : decode cX11_readRefusal 24 = .ok (.ireturn, 1) := dB_36_4_1.1.2.1.2
theorem dX11_readRefusal_25 : decode cX11_readRefusal 25 = .ok (.aload_n 0, 1) := dB_36_4_1.1.2.2.1
theorem dX11_readRefusal_26 : decode cX11_readRefusal 26 = .ok (.aload_n 1, 1) := dB_36_4_1.1.2.2.2
theorem dX11_readRefusal_27 : decode cX11_readRefusal 27 = .ok (.iload_n 2, 1) := dB_36_4_1.2.1.1.1
theorem dX11_readRefusal_28 : decode cX11_readRefusal 28 = .ok (.iconst 0, 1) := dB_36_4_1.2.1.1.2
theorem dX11_readRefusal_29 : decode cX11_readRefusal 29 = .ok (.invokevirtual 277, 3) := dB_36_4_1.2.1.2.1
theorem dX11_readRefusal_32 : decode cX11_readRefusal 32 = .ok (.aload_n 1, 1) := dB_36_4_1.2.1.2.2
theorem dX11_readRefusal_33 : decode cX11_readRefusal 33 = .ok (.iload_n 2, 1) := dB_36_4_1.2.2.1.1
theorem dX11_readRefusal_34 : decode cX11_readRefusal 34 = .ok (.iconst 1, 1) := dB_36_4_1.2.2.1.2
theorem dX11_readRefusal_35 : decode cX11_readRefusal 35 = .ok (.invokevirtual 277, 3) := dB_36_4_1.2.2.2.1
theorem dX11_readRefusal_38 : decode cX11_readRefusal 38 = .ok (.aload_n 1, 1) := dB_36_4_1.2.2.2.2
theorem dB_36_4_2 : ((((decode cX11_readRefusal 39 = .ok (.iload_n 2, 1)) ∧ (decode cX11_readRefusal 40 = .ok (.iconst 2, 1))) ∧ ((decode cX11_readRefusal 41 = .ok (.invokevirtual 277, 3)) ∧ (decode cX11_readRefusal 44 = .ok (.aload_n 1, 1)))) ∧ (((decode cX11_readRefusal 45 = .ok (.iload_n 2, 1)) ∧ (decode cX11_readRefusal 46 = .ok (.iconst 3, 1))) ∧ ((decode cX11_readRefusal 47 = .ok (.invokevirtual 277, 3)) ∧ (decode cX11_readRefusal 50 = .ok (.aload_n 1, 1))))) ∧ ((((decode cX11_readRefusal 51 = .ok (.iload_n 2, 1)) ∧ (decode cX11_readRefusal 52 = .ok (.iconst 4, 1))) ∧ ((decode cX11_readRefusal 53 = .ok (.invokevirtual 277, 3)) ∧ (decode cX11_readRefusal 56 = .ok (.invokevirtual 100, 3)))) ∧ (((decode cX11_readRefusal 59 = .ok (.ireturn, 1)) ∧ (decode cJ6_bitCount_0f7a4 0 = .ok (.iload_n 0, 1))) ∧ ((decode cJ6_bitCount_0f7a4 1 = .ok (.iload_n 0, 1)) ∧ (decode cJ6_bitCount_0f7a4 2 = .ok (.iconst 1, 1))))) := by first | decide +kernel | ((repeat' apply And.intro) <;> decide +kernel)
theorem dX11_readRefusal_39 : decode cX11_readRefusal 39 = .ok (.iload_n 2, 1) := dB_36_4_2.1.1.1.1
theorem dX11_readRefusal_40 : decode cX11_readRefusal 40 = .ok (.iconst 2, 1) := dB_36_4_2.1.1.1.2
theorem dX11_readRefusal_41 : decode cX11_readRefusal 41 = .ok (.invokevirtual 277, 3) := dB_36_4_2.1.1.2.1
theorem dX11_readRefusal_44 : decode cX11_readRefusal 44 = .ok (.aload_n 1, 1) := dB_36_4_2.1.1.2.2
theorem dX11_readRefusal_45 : decode cX11_readRefusal 45 = .ok (.iload_n 2, 1) := dB_36_4_2.1.2.1.1
theorem dX11_readRefusal_46 : decode cX11_readRefusal 46 = .ok (.iconst 3, 1) := dB_36_4_2.1.2.1.2
theorem dX11_readRefusal_47 : decode cX11_readRefusal 47 = .ok (.invokevirtual 277, 3) := dB_36_4_2.1.2.2.1
theorem dX11_readRefusal_50 : decode cX11_readRefusal 50 = .ok (.aload_n 1, 1) := dB_36_4_2.1.2.2.2
theorem dX11_readRefusal_51 : decode cX11_readRefusal 51 = .ok (.iload_n 2, 1) := dB_36_4_2.2.1.1.1
theorem dX11_readRefusal_52 : decode cX11_readRefusal 52 = .ok (.iconst 4, 1) := dB_36_4_2.2.1.1.2
theorem dX11_readRefusal_53 : decode cX11_readRefusal 53 = .ok (.invokevirtual 277, 3) := dB_36_4_2.2.1.2.1
theorem dX11_readRefusal_56 : decode cX11_readRefusal 56 = .ok (.invokevirtual 100, 3) := dB_36_4_2.2.1.2.2
theorem dX11_readRefusal_59 : decode cX11_readRefusal 59 = .ok (.ireturn, 1) := dB_36_4_2.2.2.1.1
theorem dJ6_bitCount_0f7a4_0 : decode cJ6_bitCount_0f7a4 0 = .ok (.iload_n 0, 1) := dB_36_4_2.2.2.1.2
theorem dJ6_bitCount_0f7a4_1 : decode cJ6_bitCount_0f7a4 1 = .ok (.iload_n 0, 1) := dB_36_4_2.2.2.2.1
theorem dJ6_bitCount_0f7a4_2 : decode cJ6_bitCount_0f7a4 2 = .ok (.iconst 1, 1) := dB_36_4_2.2.2.2.2
theorem dB_36_4_3 : ((((decode cJ6_bitCount_0f7a4 3 = .ok (.iushr, 1)) ∧ (decode cJ6_bitCount_0f7a4 4 = .ok (.ldc_w 265, 3))) ∧ ((decode cJ6_bitCount_0f7a4 7 = .ok (.iand, 1)) ∧ (decode cJ6_bitCount_0f7a4 8 = .ok (.isub, 1)))) ∧ (((decode cJ6_bitCount_0f7a4 9 = .ok (.istore_n 0, 1)) ∧ (decode cJ6_bitCount_0f7a4 10 = .ok (.iload_n 0, 1))) ∧ ((decode cJ6_bitCount_0f7a4 11 = .ok (.ldc_w 266, 3)) ∧ (decode cJ6_bitCount_0f7a4 14 = .ok (.iand, 1))))) ∧ ((((decode cJ6_bitCount_0f7a4 15 = .ok (.iload_n 0, 1)) ∧ (decode cJ6_bitCount_0f7a4 16 = .ok (.iconst 2, 1))) ∧ ((decode cJ6_bitCount_0f7a4 17 = .ok (.iushr, 1)) ∧ (decode cJ6_bitCount_0f7a4 18 = .ok (.ldc_w 266, 3)))) ∧ (((decode cJ6_bitCount_0f7a4 21 = .ok (.iand, 1)) ∧ (decode cJ6_bitCount_0f7a4 22 = .ok (.iadd, 1))) ∧ ((decode cJ6_bitCount_0f7a4 23 = .ok (.istore_n 0, 1)) ∧ (decode cJ6_bitCount_0f7a4 24 = .ok (.iload_n 0, 1))))) := by first | decide +kernel | ((repeat' apply And.intro) <;> decide +kernel)
theorem dJ6_bitCount_0f7a4_3 : decode cJ6_bitCount_0f7a4 3 = .ok (.iushr, 1) := dB_36_4_3.1.1.1.1
theorem dJ6_bitCount_0f7a4_4 : decode cJ6_bitCount_0f7a4 4 = .ok (.ldc_w 265, 3) := dB_36_4_3.1.1.1.2
theorem dJ6_bitCount_0f7a4_7 : decode cJ6_bitCount_0f7a4 7 = .ok (.iand, 1) := dB_36_4_3.1.1.2.1
theorem dJ6_bitCount_0f7a4_8 : decode cJ6_bitCount_0f7a4 8 = .ok (.isub, 1) := dB_36_4_3.1.1.2.2
theorem dJ6_bitCount_0f7a4_9 : decode cJ6_bitCount_0f7a4 9 = .ok (.istore_n 0, 1) := dB_36_4_3.1.2.1.1
theorem dJ6_bitCount_0f7a4_10 : decode cJ6_bitCount_0f7a4 10 = .ok (.iload_n 0, 1) := dB_36_4_3.1.2.1.2
theorem dJ6_bitCount_0f7a4_11 : decode cJ6_bitCount_0f7a4 11 = .ok (.ldc_w 266, 3) := dB_36_4_3.1.2.2.1
theorem dJ6_bitCount_0f7a4_14 : decode cJ6_bitCount_0f7a4 14 = .ok (.iand, 1) := dB_36_4_3.1.2.2.2
theorem dJ6_bitCount_0f7a4_15 : decode cJ6_bitCount_0f7a4 15 = .ok (.iload_n 0, 1) := dB_36_4_3.2.1.1.1
theorem dJ6_bitCount_0f7a4_16 : decode cJ6_bitCount_0f7a4 16 = .ok (.iconst 2, 1) := dB_36_4_3.2.1.1.2
theorem dJ6_bitCount_0f7a4_17 : decode cJ6_bitCount_0f7a4 17 = .ok (.iushr, 1) := dB_36_4_3.2.1.2.1
theorem dJ6_bitCount_0f7a4_18 : decode cJ6_bitCount_0f7a4 18 = .ok (.ldc_w 266, 3) := dB_36_4_3.2.1.2.2
theorem dJ6_bitCount_0f7a4_21 : decode cJ6_bitCount_0f7a4 21 = .ok (.iand, 1) := dB_36_4_3.2.2.1.1
theorem dJ6_bitCount_0f7a4_22 : decode cJ6_bitCount_0f7a4 22 = .ok (.iadd, 1) := dB_36_4_3.2.2.1.2
theorem dJ6_bitCount_0f7a4_23 : decode cJ6_bitCount_0f7a4 23 = .ok (.istore_n 0, 1) := dB_36_4_3.2.2.2.1
theorem dJ6_bitCount_0f7a4_24 : decode cJ6_bitCount_0f7a4 24 = .ok (.iload_n 0, 1) := dB_36_4_3.2.2.2.2
theorem dB_36_4_4 : ((((decode cJ6_bitCount_0f7a4 25 = .ok (.iload_n 0, 1)) ∧ (decode cJ6_bitCount_0f7a4 26 = .ok (.iconst 4, 1))) ∧ ((decode cJ6_bitCount_0f7a4 27 = .ok (.iushr, 1)) ∧ (decode cJ6_bitCount_0f7a4 28 = .ok (.iadd, 1)))) ∧ (((decode cJ6_bitCount_0f7a4 29 = .ok (.ldc_w 267, 3)) ∧ (decode cJ6_bitCount_0f7a4 32 = .ok (.iand, 1))) ∧ ((decode cJ6_bitCount_0f7a4 33 = .ok (.istore_n 0, 1)) ∧ (decode cJ6_bitCount_0f7a4 34 = .ok (.iload_n 0, 1))))) ∧ ((((decode cJ6_bitCount_0f7a4 35 = .ok (.iload_n 0, 1)) ∧ (decode cJ6_bitCount_0f7a4 36 = .ok (.bipush 8, 2))) ∧ ((decode cJ6_bitCount_0f7a4 38 = .ok (.iushr, 1)) ∧ (decode cJ6_bitCount_0f7a4 39 = .ok (.iadd, 1)))) ∧ (((decode cJ6_bitCount_0f7a4 40 = .ok (.istore_n 0, 1)) ∧ (decode cJ6_bitCount_0f7a4 41 = .ok (.iload_n 0, 1))) ∧ ((decode cJ6_bitCount_0f7a4 42 = .ok (.iload_n 0, 1)) ∧ (decode cJ6_bitCount_0f7a4 43 = .ok (.bipush 16, 2))))) := by first | decide +kernel | ((repeat' apply And.intro) <;> decide +kernel)
theorem dJ6_bitCount_0f7a4_25 : decode cJ6_bitCount_0f7a4 25 = .ok (.iload_n 0, 1) := dB_36_4_4.1.1.1.1
theorem dJ6_bitCount_0f7a4_26 : decode cJ6_bitCount_0f7a4 26 = .ok (.iconst 4, 1) := dB_36_4_4.1.1.1.2
theorem dJ6_bitCount_0f7a4_27 : decode cJ6_bitCount_0f7a4 27 = .ok (.iushr, 1) := dB_36_4_4.1.1.2.1
theorem dJ6_bitCount_0f7a4_28 : decode cJ6_bitCount_0f7a4 28 = .ok (.iadd, 1) := dB_36_4_4.1.1.2.2
theorem dJ6_bitCount_0f7a4_29 : decode cJ6_bitCount_0f7a4 29 = .ok (.ldc_w 267, 3) := dB_36_4_4.1.2.1.1
theorem dJ6_bitCount_0f7a4_32 : decode cJ6_bitCount_0f7a4 32 = .ok (.iand, 1) := dB_36_4_4.1.2.1.2
theorem dJ6_bitCount_0f7a4_33 : decode cJ6_bitCount_0f7a4 33 = .ok (.istore_n 0, 1) := dB_36_4_4.1.2.2.1
theorem dJ6_bitCount_0f7a4_34 : decode cJ6_bitCount_0f7a4 34 = .ok (.iload_n 0, 1) := dB_36_4_4.1.2.2.2
theorem dJ6_bitCount_0f7a4_35 : decode cJ6_bitCount_0f7a4 35 = .ok (.iload_n 0, 1) := dB_36_4_4.2.1.1.1
theorem dJ6_bitCount_0f7a4_36 : decode cJ6_bitCount_0f7a4 36 = .ok (.bipush 8, 2) := dB_36_4_4.2.1.1.2
theorem dJ6_bitCount_0f7a4_38 : decode cJ6_bitCount_0f7a4 38 = .ok (.iushr, 1) := dB_36_4_4.2.1.2.1
theorem dJ6_bitCount_0f7a4_39 : decode cJ6_bitCount_0f7a4 39 = .ok (.iadd, 1) := dB_36_4_4.2.1.2.2
theorem dJ6_bitCount_0f7a4_40 : decode cJ6_bitCount_0f7a4 40 = .ok (.istore_n 0, 1) := dB_36_4_4.2.2.1.1
theorem dJ6_bitCount_0f7a4_41 : decode cJ6_bitCount_0f7a4 41 = .ok (.iload_n 0, 1) := dB_36_4_4.2.2.1.2
theorem dJ6_bitCount_0f7a4_42 : decode cJ6_bitCount_0f7a4 42 = .ok (.iload_n 0, 1) := dB_36_4_4.2.2.2.1
theorem dJ6_bitCount_0f7a4_43 : decode cJ6_bitCount_0f7a4 43 = .ok (.bipush 16, 2) := dB_36_4_4.2.2.2.2
theorem dB_36_4_5 : ((((decode cJ6_bitCount_0f7a4 45 = .ok (.iushr, 1)) ∧ (decode cJ6_bitCount_0f7a4 46 = .ok (.iadd, 1))) ∧ ((decode cJ6_bitCount_0f7a4 47 = .ok (.istore_n 0, 1)) ∧ (decode cJ6_bitCount_0f7a4 48 = .ok (.iload_n 0, 1)))) ∧ (((decode cJ6_bitCount_0f7a4 49 = .ok (.bipush 63, 2)) ∧ (decode cJ6_bitCount_0f7a4 51 = .ok (.iand, 1))) ∧ ((decode cJ6_bitCount_0f7a4 52 = .ok (.ireturn, 1)) ∧ (decode cJ7_fill_53178 0 = .ok (.iconst 0, 1))))) ∧ ((((decode cJ7_fill_53178 1 = .ok (.istore_n 2, 1)) ∧ (decode cJ7_fill_53178 2 = .ok (.aload_n 0, 1))) ∧ ((decode cJ7_fill_53178 3 = .ok (.arraylength, 1)) ∧ (decode cJ7_fill_53178 4 = .ok (.istore_n 3, 1)))) ∧ (((decode cJ7_fill_53178 5 = .ok (.iload_n 2, 1)) ∧ (decode cJ7_fill_53178 6 = .ok (.iload_n 3, 1))) ∧ ((decode cJ7_fill_53178 7 = .ok (.if_icmp .ge 13, 3)) ∧ (decode cJ7_fill_53178 10 = .ok (.aload_n 0, 1))))) := by first | decide +kernel | ((repeat' apply And.intro) <;> decide +kernel)
theorem dJ6_bitCount_0f7a4_45 : decode cJ6_bitCount_0f7a4 45 = .ok (.iushr, 1) := dB_36_4_5.1.1.1.1
theorem dJ6_bitCount_0f7a4_46 : decode cJ6_bitCount_0f7a4 46 = .ok (.iadd, 1) := dB_36_4_5.1.1.1.2
theorem dJ6_bitCount_0f7a4_47 : decode cJ6_bitCount_0f7a4 47 = .ok (.istore_n 0, 1) := dB_36_4_5.1.1.2.1
theorem dJ6_bitCount_0f7a4_48 : decode cJ6_bitCount_0f7a4 48 = .ok (.iload_n 0, 1) := dB_36_4_5.1.1.2.2
theorem dJ6_bitCount_0f7a4_49 : decode cJ6_bitCount_0f7a4 49 = .ok (.bipush 63, 2) := dB_36_4_5.1.2.1.1
theorem dJ6_bitCount_0f7a4_51 : decode cJ6_bitCount_0f7a4 51 = .ok (.iand, 1) := dB_36_4_5.1.2.1.2
theorem dJ6_bitCount_0f7a4_52 : decode cJ6_bitCount_0f7a4 52 = .ok (.ireturn, 1) := dB_36_4_5.1.2.2.1
theorem dJ7_fill_53178_0 : decode cJ7_fill_53178 0 = .ok (.iconst 0, 1) := dB_36_4_5.1.2.2.2
theorem dJ7_fill_53178_1 : decode cJ7_fill_53178 1 = .ok (.istore_n 2, 1) := dB_36_4_5.2.1.1.1
theorem dJ7_fill_53178_2 : decode cJ7_fill_53178 2 = .ok (.aload_n 0, 1) := dB_36_4_5.2.1.1.2
theorem dJ7_fill_53178_3 : decode cJ7_fill_53178 3 = .ok (.arraylength, 1) := dB_36_4_5.2.1.2.1
theorem dJ7_fill_53178_4 : decode cJ7_fill_53178 4 = .ok (.istore_n 3, 1) := dB_36_4_5.2.1.2.2
theorem dJ7_fill_53178_5 : decode cJ7_fill_53178 5 = .ok (.iload_n 2, 1) := dB_36_4_5.2.2.1.1
theorem dJ7_fill_53178_6 : decode cJ7_fill_53178 6 = .ok (.iload_n 3, 1) := dB_36_4_5.2.2.1.2
theorem dJ7_fill_53178_7 : decode cJ7_fill_53178 7 = .ok (.if_icmp .ge 13, 3) := dB_36_4_5.2.2.2.1
theorem dJ7_fill_53178_10 : decode cJ7_fill_53178 10 = .ok (.aload_n 0, 1) := dB_36_4_5.2.2.2.2
theorem dB_36_4_6 : ((decode cJ7_fill_53178 11 = .ok (.iload_n 2, 1)) ∧ ((decode cJ7_fill_53178 12 = .ok (.iload_n 1, 1)) ∧ (decode cJ7_fill_53178 13 = .ok (.iastore, 1)))) ∧ ((decode cJ7_fill_53178 14 = .ok (.iinc 2 1, 3)) ∧ ((decode cJ7_fill_53178 17 = .ok (.goto (-12), 3)) ∧ (decode cJ7_fill_53178 20 = .ok (.return_, 1)))) := by first | decide +kernel | ((repeat' apply And.intro) <;> decide +kernel)
theorem dJ7_fill_53178_11 : decode cJ7_fill_53178 11 = .ok (.iload_n 2, 1) := dB_36_4_6.1.1
theorem dJ7_fill_53178_12 : decode cJ7_fill_53178 12 = .ok (.iload_n 1, 1) := dB_36_4_6.1.2.1
theorem dJ7_fill_53178_13 : decode cJ7_fill_53178 13 = .ok (.iastore, 1) := dB_36_4_6.1.2.2
theorem dJ7_fill_53178_14 : decode cJ7_fill_53178 14 = .ok (.iinc 2 1, 3) := dB_36_4_6.2.1
theorem dJ7_fill_53178_17 : decode cJ7_fill_53178 17 = .ok (.goto (-12), 3) := dB_36_4_6.2.2.1
theorem dJ7_fill_53178_20 : decode cJ7_fill_53178 20 = .ok (.return_, 1) := dB_36_4_6.2.2.2
