section
theorem dB_36_3_0 : ((((decode cX11_cut 14 = .ok (.iload_n 3, 1)) ∧ (decode cX11_cut 15 = .ok (.ifCond .lt 8, 3))) ∧ ((decode cX11_cut 18 = .ok (.iload_n 3, 1)) ∧ (decode cX11_cut 19 = .ok (.iconst 1, 1)))) ∧ (((decode cX11_cut 20 = .ok (.if_icmp .le 5, 3)) ∧ (decode cX11_cut 23 = .ok (.iconst (-1), 1))) ∧ ((decode cX11_cut 24 = .ok (.ireturn, 1)) ∧ (decode cX11_cut 25 = .ok (.aload_n 0, 1))))) ∧ ((((decode cX11_cut 26 = .ok (.iload_n 1, 1)) ∧ (decode cX11_cut 27 = .ok (.iload_n 2, 1))) ∧ ((decode cX11_cut 28 = .ok (.invokevirtual 169, 3)) ∧ (decode cX11_cut 31 = .ok (.bipush (-5), 2)))) ∧ (((decode cX11_cut 33 = .ok (.if_icmp .ne 6, 3)) ∧ (decode cX11_cut 36 = .ok (.bipush (-5), 2))) ∧ ((decode cX11_cut 38 = .ok (.ireturn, 1)) ∧ (decode cX11_cut 39 = .ok (.iload_n 3, 1))))) := by first | decide +kernel | ((repeat' apply And.intro) <;> decide +kernel)
theorem dX11_cut_14 : decode cX11_cut 14 = .ok (.iload_n 3, 1) := dB_36_3_0.1.1.1.1
theorem dX11_cut_15 : decode cX11_cut 15 = .ok (.ifCond .lt 8, 3) := dB_36_3_0.1.1.1.2
theorem dX11_cut_18 : decode cX11_cut 18 = .ok (.iload_n 3, 1) := dB_36_3_0.1.1.2.1
theorem dX11_cut_19 : decode cX11_cut 19 = .ok (.iconst 1, 1) := dB_36_3_0.1.1.2.2
theorem dX11_cut_20 : decode cX11_cut 20 = .ok (.if_icmp .le 5, 3) := dB_36_3_0.1.2.1.1
theorem dX11_cut_23 : decode cX11_cut 23 = .ok (.iconst (-1), 1) := dB_36_3_0.1.2.1.2
theorem dX11_cut_24 : decode cX11_cut 24 = .ok (.ireturn, 1) := dB_36_3_0.1.2.2.1
theorem dX11_cut_25 : decode cX11_cut 25 = .ok (.aload_n 0, 1) := dB_36_3_0.1.2.2.2
theorem dX11_cut_26 : decode cX11_cut 26 = .ok (.iload_n 1, 1) := dB_36_3_0.2.1.1.1
theorem dX11_cut_27 : decode cX11_cut 27 = .ok (.iload_n 2, 1) := dB_36_3_0.2.1.1.2
theorem dX11_cut_28 : decode cX11_cut 28 = .ok (.invokevirtual 169, 3) := dB_36_3_0.2.1.2.1
theorem dX11_cut_31 : decode cX11_cut 31 = .ok (.bipush (-5), 2) := dB_36_3_0.2.1.2.2
theorem dX11_cut_33 : decode cX11_cut 33 = .ok (.if_icmp .ne 6, 3) := dB_36_3_0.2.2.1.1
theorem dX11_cut_36 : decode cX11_cut 36 = .ok (.bipush (-5), 2) := dB_36_3_0.2.2.1.2
theorem dX11_cut_38 : decode cX11_cut 38 = .ok (.ireturn, 1) := dB_36_3_0.2.2.2.1
theorem dX11_cut_39 : decode cX11_cut 39 = .ok (.iload_n 3, 1) := dB_36_3_0.2.2.2.2
theorem dB_36_3_1 : ((((decode cX11_cut 40 = .ok (.ifCond .ne 14, 3)) ∧ (decode cX11_cut 43 = .ok (.aload_n 0, 1))) ∧ ((decode cX11_cut 44 = .ok (.getfield 40, 3)) ∧ (decode cX11_cut 47 = .ok (.iload_n 1, 1)))) ∧ (((decode cX11_cut 48 = .ok (.invokevirtual 176, 3)) ∧ (decode cX11_cut 51 = .ok (.goto 11, 3))) ∧ ((decode cX11_cut 54 = .ok (.aload_n 0, 1)) ∧ (decode cX11_cut 55 = .ok (.getfield 40, 3))))) ∧ ((((decode cX11_cut 58 = .ok (.iload_n 2, 1)) ∧ (decode cX11_cut 59 = .ok (.invokevirtual 179, 3))) ∧ ((decode cX11_cut 62 = .ok (.ireturn, 1)) ∧ (decode cX11_count 0 = .ok (.aload_n 0, 1)))) ∧ (((decode cX11_count 1 = .ok (.getfield 31, 3)) ∧ (decode cX11_count 4 = .ok (.iload_n 1, 1))) ∧ ((decode cX11_count 5 = .ok (.i2l, 1)) ∧ (decode cX11_count 6 = .ok (.iload_n 2, 1))))) := by first | decide +kernel | ((repeat' apply And.intro) <;> decide +kernel)
theorem dX11_cut_40 : decode cX11_cut 40 = .ok (.ifCond .ne 14, 3) := dB_36_3_1.1.1.1.1
theorem dX11_cut_43 : decode cX11_cut 43 = .ok (.aload_n 0, 1) := dB_36_3_1.1.1.1.2
theorem dX11_cut_44 : decode cX11_cut 44 = .ok (.getfield 40, 3) := dB_36_3_1.1.1.2.1
theorem dX11_cut_47 : decode cX11_cut 47 = .ok (.iload_n 1, 1) := dB_36_3_1.1.1.2.2
theorem dX11_cut_48 : decode cX11_cut 48 = .ok (.invokevirtual 176, 3) := dB_36_3_1.1.2.1.1
theorem dX11_cut_51 : decode cX11_cut 51 = .ok (.goto 11, 3) := dB_36_3_1.1.2.1.2
theorem dX11_cut_54 : decode cX11_cut 54 = .ok (.aload_n 0, 1) := dB_36_3_1.1.2.2.1
theorem dX11_cut_55 : decode cX11_cut 55 = .ok (.getfield 40, 3) := dB_36_3_1.1.2.2.2
theorem dX11_cut_58 : decode cX11_cut 58 = .ok (.iload_n 2, 1) := dB_36_3_1.2.1.1.1
theorem dX11_cut_59 : decode cX11_cut 59 = .ok (.invokevirtual 179, 3) := dB_36_3_1.2.1.1.2
theorem dX11_cut_62 : decode cX11_cut 62 = .ok (.ireturn, 1) := dB_36_3_1.2.1.2.1
theorem dX11_count_0 : decode cX11_count 0 = .ok (.aload_n 0, 1) := dB_36_3_1.2.1.2.2
theorem dX11_count_1 : decode cX11_count 1 = .ok (.getfield 31, 3) := dB_36_3_1.2.2.1.1
theorem dX11_count_4 : decode cX11_count 4 = .ok (.iload_n 1, 1) := dB_36_3_1.2.2.1.2
theorem dX11_count_5 : decode cX11_count 5 = .ok (.i2l, 1) := dB_36_3_1.2.2.2.1
theorem dX11_count_6 : decode cX11_count 6 = .ok (.iload_n 2, 1) := dB_36_3_1.2.2.2.2
theorem dB_36_3_2 : ((((decode cX11_count 7 = .ok (.i2l, 1)) ∧ (decode cX11_count 8 = .ok (.invokevirtual 135, 3))) ∧ ((decode cX11_count 11 = .ok (.ifCond .ne 5, 3)) ∧ (decode cX11_count 14 = .ok (.iconst (-1), 1)))) ∧ (((decode cX11_count 15 = .ok (.ireturn, 1)) ∧ (decode cX11_count 16 = .ok (.aload_n 0, 1))) ∧ ((decode cX11_count 17 = .ok (.iload_n 1, 1)) ∧ (decode cX11_count 18 = .ok (.iload_n 2, 1))))) ∧ ((((decode cX11_count 19 = .ok (.invokevirtual 169, 3)) ∧ (decode cX11_count 22 = .ok (.istore_n 3, 1))) ∧ ((decode cX11_count 23 = .ok (.iload_n 3, 1)) ∧ (decode cX11_count 24 = .ok (.bipush (-5), 2)))) ∧ (((decode cX11_count 26 = .ok (.if_icmp .ne 8, 3)) ∧ (decode cX11_count 29 = .ok (.bipush (-5), 2))) ∧ ((decode cX11_count 31 = .ok (.goto 17, 3)) ∧ (decode cX11_count 34 = .ok (.aload_n 0, 1))))) := by first | decide +kernel | ((repeat' apply And.intro) <;> decide +kernel)
theorem dX11_count_7 : decode cX11_count 7 = .ok (.i2l, 1) := dB_36_3_2.1.1.1.1
theorem dX11_count_8 : decode cX11_count 8 = .ok (.invokevirtual 135, 3) := dB_36_3_2.1.1.1.2
theorem dX11_count_11 : decode cX11_count 11 = .ok (.ifCond .ne 5, 3) := dB_36_3_2.1.1.2.1
theorem dX11_count_14 : decode cX11_count 14 = .ok (.iconst (-1), 1) := dB_36_3_2.1.1.2.2
theorem dX11_count_15 : decode cX11_count 15 = .ok (.ireturn, 1) := dB_36_3_2.1.2.1.1
theorem dX11_count_16 : decode cX11_count 16 = .ok (.aload_n 0, 1) := dB_36_3_2.1.2.1.2
theorem dX11_count_17 : decode cX11_count 17 = .ok (.iload_n 1, 1) := dB_36_3_2.1.2.2.1
theorem dX11_count_18 : decode cX11_count 18 = .ok (.iload_n 2, 1) := dB_36_3_2.1.2.2.2
theorem dX11_count_19 : decode cX11_count 19 = .ok (.invokevirtual 169, 3) := dB_36_3_2.2.1.1.1
theorem dX11_count_22 : decode cX11_count 22 = .ok (.istore_n 3, 1) := dB_36_3_2.2.1.1.2
theorem dX11_count_23 : decode cX11_count 23 = .ok (.iload_n 3, 1) := dB_36_3_2.2.1.2.1
theorem dX11_count_24 : decode cX11_count 24 = .ok (.bipush (-5), 2) := dB_36_3_2.2.1.2.2
theorem dX11_count_26 : decode cX11_count 26 = .ok (.if_icmp .ne 8, 3) := dB_36_3_2.2.2.1.1
theorem dX11_count_29 : decode cX11_count 29 = .ok (.bipush (-5), 2) := dB_36_3_2.2.2.1.2
theorem dX11_count_31 : decode cX11_count 31 = .ok (.goto 17, 3) := dB_36_3_2.2.2.2.1
theorem dX11_count_34 : decode cX11_count 34 = .ok (.aload_n 0, 1) := dB_36_3_2.2.2.2.2
theorem dB_36_3_3 : ((((decode cX11_count 35 = .ok (.getfield 49, 3)) ∧ (decode cX11_count 38 = .ok (.iconst 1, 1))) ∧ ((decode cX11_count 39 = .ok (.iload_n 1, 1)) ∧ (decode cX11_count 40 = .ok (.ishl, 1)))) ∧ (((decode cX11_count 41 = .ok (.iconst 1, 1)) ∧ (decode cX11_count 42 = .ok (.iload_n 2, 1))) ∧ ((decode cX11_count 43 = .ok (.ishl, 1)) ∧ (decode cX11_count 44 = .ok (.iload_n 3, 1))))) ∧ ((((decode cX11_count 45 = .ok (.invokevirtual 182, 3)) ∧ (decode cX11_count 48 = .ok (.ireturn, 1))) ∧ ((decode cX11_next 0 = .ok (.aload_n 0, 1)) ∧ (decode cX11_next 1 = .ok (.getfield 31, 3)))) ∧ (((decode cX11_next 4 = .ok (.iload_n 1, 1)) ∧ (decode cX11_next 5 = .ok (.i2l, 1))) ∧ ((decode cX11_next 6 = .ok (.iload_n 2, 1)) ∧ (decode cX11_next 7 = .ok (.i2l, 1))))) := by first | decide +kernel | ((repeat' apply And.intro) <;> decide +kernel)
theorem dX11_count_35 : decode cX11_count 35 = .ok (.getfield 49, 3) := dB_36_3_3.1.1.1.1
theorem dX11_count_38 : decode cX11_count 38 = .ok (.iconst 1, 1) := dB_36_3_3.1.1.1.2
theorem dX11_count_39 : decode cX11_count 39 = .ok (.iload_n 1, 1) := dB_36_3_3.1.1.2.1
theorem dX11_count_40 : decode cX11_count 40 = .ok (.ishl, 1) := dB_36_3_3.1.1.2.2
theorem dX11_count_41 : decode cX11_count 41 = .ok (.iconst 1, 1) := dB_36_3_3.1.2.1.1
theorem dX11_count_42 : decode cX11_count 42 = .ok (.iload_n 2, 1) := dB_36_3_3.1.2.1.2
theorem dX11_count_43 : decode cX11_count 43 = .ok (.ishl, 1) := dB_36_3_3.1.2.2.1
theorem dX11_count_44 : decode cX11_count 44 = .ok (.iload_n 3, 1) := dB_36_3_3.1.2.2.2
theorem dX11_count_45 : decode cX11_count 45 = .ok (.invokevirtual 182, 3) := dB_36_3_3.2.1.1.1
theorem dX11_count_48 : decode cX11_count 48 = .ok (.ireturn, 1) := dB_36_3_3.2.1.1.2
theorem dX11_next_0 : decode cX11_next 0 = .ok (.aload_n 0, 1) := dB_36_3_3.2.1.2.1
theorem dX11_next_1 : decode cX11_next 1 = .ok (.getfield 31, 3) := dB_36_3_3.2.1.2.2
theorem dX11_next_4 : decode cX11_next 4 = .ok (.iload_n 1, 1) := dB_36_3_3.2.2.1.1
theorem dX11_next_5 : decode cX11_next 5 = .ok (.i2l, 1) := dB_36_3_3.2.2.1.2
theorem dX11_next_6 : decode cX11_next 6 = .ok (.iload_n 2, 1) := dB_36_3_3.2.2.2.1
theorem dX11_next_7 : decode cX11_next 7 = .ok (.i2l, 1) := dB_36_3_3.2.2.2.2
theorem dB_36_3_4 : ((((decode cX11_next 8 = .ok (.invokevirtual 135, 3)) ∧ (decode cX11_next 11 = .ok (.ifCond .eq 7, 3))) ∧ ((decode cX11_next 14 = .ok (.iload_n 3, 1)) ∧ (decode cX11_next 15 = .ok (.ifCond .ge 5, 3)))) ∧ (((decode cX11_next 18 = .ok (.iconst (-1), 1)) ∧ (decode cX11_next 19 = .ok (.ireturn, 1))) ∧ ((decode cX11_next 20 = .ok (.aload_n 0, 1)) ∧ (decode cX11_next 21 = .ok (.iload_n 1, 1))))) ∧ ((((decode cX11_next 22 = .ok (.iload_n 2, 1)) ∧ (decode cX11_next 23 = .ok (.invokevirtual 169, 3))) ∧ ((decode cX11_next 26 = .ok (.istore 4, 2)) ∧ (decode cX11_next 28 = .ok (.iload 4, 2)))) ∧ (((decode cX11_next 30 = .ok (.bipush (-5), 2)) ∧ (decode cX11_next 32 = .ok (.if_icmp .ne 8, 3))) ∧ ((decode cX11_next 35 = .ok (.bipush (-5), 2)) ∧ (decode cX11_next 37 = .ok (.goto 19, 3))))) := by first | decide +kernel | ((repeat' apply And.intro) <;> decide +kernel)
theorem dX11_next_8 : decode cX11_next 8 = .ok (.invokevirtual 135, 3) := dB_36_3_4.1.1.1.1
theorem dX11_next_11 : decode cX11_next 11 = .ok (.ifCond .eq 7, 3) := dB_36_3_4.1.1.1.2
theorem dX11_next_14 : decode cX11_next 14 = .ok (.iload_n 3, 1) := dB_36_3_4.1.1.2.1
theorem dX11_next_15 : decode cX11_next 15 = .ok (.ifCond .ge 5, 3) := dB_36_3_4.1.1.2.2
theorem dX11_next_18 : decode cX11_next 18 = .ok (.iconst (-1), 1) := dB_36_3_4.1.2.1.1
theorem dX11_next_19 : decode cX11_next 19 = .ok (.ireturn, 1) := dB_36_3_4.1.2.1.2
theorem dX11_next_20 : decode cX11_next 20 = .ok (.aload_n 0, 1) := dB_36_3_4.1.2.2.1
theorem dX11_next_21 : decode cX11_next 21 = .ok (.iload_n 1, 1) := dB_36_3_4.1.2.2.2
theorem dX11_next_22 : decode cX11_next 22 = .ok (.iload_n 2, 1) := dB_36_3_4.2.1.1.1
theorem dX11_next_23 : decode cX11_next 23 = .ok (.invokevirtual 169, 3) := dB_36_3_4.2.1.1.2
theorem dX11_next_26 : decode cX11_next 26 = .ok (.istore 4, 2) := dB_36_3_4.2.1.2.1
theorem dX11_next_28 : decode cX11_next 28 = .ok (.iload 4, 2) := dB_36_3_4.2.1.2.2
theorem dX11_next_30 : decode cX11_next 30 = .ok (.bipush (-5), 2) := dB_36_3_4.2.2.1.1
theorem dX11_next_32 : decode cX11_next 32 = .ok (.if_icmp .ne 8, 3) := dB_36_3_4.2.2.1.2
theorem dX11_next_35 : decode cX11_next 35 = .ok (.bipush (-5), 2) := dB_36_3_4.2.2.2.1
theorem dX11_next_37 : decode cX11_next 37 = .ok (.goto 19, 3) := dB_36_3_4.2.2.2.2
theorem dB_36_3_5 : ((((decode cX11_next 40 = .ok (.aload_n 0, 1)) ∧ (decode cX11_next 41 = .ok (.getfield 49, 3))) ∧ ((decode cX11_next 44 = .ok (.iconst 1, 1)) ∧ (decode cX11_next 45 = .ok (.iload_n 1, 1)))) ∧ (((decode cX11_next 46 = .ok (.ishl, 1)) ∧ (decode cX11_next 47 = .ok (.iconst 1, 1))) ∧ ((decode cX11_next 48 = .ok (.iload_n 2, 1)) ∧ (decode cX11_next 49 = .ok (.ishl, 1))))) ∧ ((((decode cX11_next 50 = .ok (.iload 4, 2)) ∧ (decode cX11_next 52 = .ok (.iload_n 3, 1))) ∧ ((decode cX11_next 53 = .ok (.invokevirtual 186, 3)) ∧ (decode cX11_next 56 = .ok (.ireturn, 1)))) ∧ (((decode cX11_size 0 = .ok (.aload_n 0, 1)) ∧ (decode cX11_size 1 = .ok (.getfield 31, 3))) ∧ ((decode cX11_size 4 = .ok (.iload_n 1, 1)) ∧ (decode cX11_size 5 = .ok (.i2l, 1))))) := by first | decide +kernel | ((repeat' apply And.intro) <;> decide +kernel)
theorem dX11_next_40 : decode cX11_next 40 = .ok (.aload_n 0, 1) := dB_36_3_5.1.1.1.1
theorem dX11_next_41 : decode cX11_next 41 = .ok (.getfield 49, 3) := dB_36_3_5.1.1.1.2
theorem dX11_next_44 : decode cX11_next 44 = .ok (.iconst 1, 1) := dB_36_3_5.1.1.2.1
theorem dX11_next_45 : decode cX11_next 45 = .ok (.iload_n 1, 1) := dB_36_3_5.1.1.2.2
theorem dX11_next_46 : decode cX11_next 46 = .ok (.ishl, 1) := dB_36_3_5.1.2.1.1
theorem dX11_next_47 : decode cX11_next 47 = .ok (.iconst 1, 1) := dB_36_3_5.1.2.1.2
theorem dX11_next_48 : decode cX11_next 48 = .ok (.iload_n 2, 1) := dB_36_3_5.1.2.2.1
theorem dX11_next_49 : decode cX11_next 49 = .ok (.ishl, 1) := dB_36_3_5.1.2.2.2
theorem dX11_next_50 : decode cX11_next 50 = .ok (.iload 4, 2) := dB_36_3_5.2.1.1.1
theorem dX11_next_52 : decode cX11_next 52 = .ok (.iload_n 3, 1) := dB_36_3_5.2.1.1.2
theorem dX11_next_53 : decode cX11_next 53 = .ok (.invokevirtual 186, 3) := dB_36_3_5.2.1.2.1
theorem dX11_next_56 : decode cX11_next 56 = .ok (.ireturn, 1) := dB_36_3_5.2.1.2.2
theorem dX11_size_0 : decode cX11_size 0 = .ok (.aload_n 0, 1) := dB_36_3_5.2.2.1.1
theorem dX11_size_1 : decode cX11_size 1 = .ok (.getfield 31, 3) := dB_36_3_5.2.2.1.2
theorem dX11_size_4 : decode cX11_size 4 = .ok (.iload_n 1, 1) := dB_36_3_5.2.2.2.1
theorem dX11_size_5 : decode cX11_size 5 = .ok (.i2l, 1) := dB_36_3_5.2.2.2.2
theorem dB_36_3_6 : ((((decode cX11_size 6 = .ok (.iload_n 2, 1)) ∧ (decode cX11_size 7 = .ok (.i2l, 1))) ∧ ((decode cX11_size 8 = .ok (.invokevirtual 135, 3)) ∧ (decode cX11_size 11 = .ok (.ifCond .ne 5, 3)))) ∧ (((decode cX11_size 14 = .ok (.iconst (-1), 1)) ∧ (decode cX11_size 15 = .ok (.ireturn, 1))) ∧ ((decode cX11_size 16 = .ok (.aload_n 0, 1)) ∧ (decode cX11_size 17 = .ok (.getfield 40, 3))))) ∧ ((((decode cX11_size 20 = .ok (.bipush (-9), 2)) ∧ (decode cX11_size 22 = .ok (.invokevirtual 190, 3))) ∧ ((decode cX11_size 25 = .ok (.aload_n 0, 1)) ∧ (decode cX11_size 26 = .ok (.getfield 40, 3)))) ∧ (((decode cX11_size 29 = .ok (.iload_n 3, 1)) ∧ (decode cX11_size 30 = .ok (.iconst 1, 1))) ∧ ((decode cX11_size 31 = .ok (.iload_n 1, 1)) ∧ (decode cX11_size 32 = .ok (.ishl, 1))))) := by first | decide +kernel | ((repeat' apply And.intro) <;> decide +kernel)
theorem dX11_size_6 : decode cX11_size 6 = .ok (.iload_n 2, 1) := dB_36_3_6.1.1.1.1
theorem dX11_size_7 : decode cX11_size 7 = .ok (.i2l, 1) := dB_36_3_6.1.1.1.2
theorem dX11_size_8 : decode cX11_size 8 = .ok (.invokevirtual 135, 3) := dB_36_3_6.1.1.2.1
theorem dX11_size_11 : decode cX11_size 11 = .ok (.ifCond .ne 5, 3) := dB_36_3_6.1.1.2.2
theorem dX11_size_14 : decode cX11_size 14 = .ok (.iconst (-1), 1) := dB_36_3_6.1.2.1.1
theorem dX11_size_15 : decode cX11_size 15 = .ok (.ireturn, 1) := dB_36_3_6.1.2.1.2
theorem dX11_size_16 : decode cX11_size 16 = .ok (.aload_n 0, 1) := dB_36_3_6.1.2.2.1
theorem dX11_size_17 : decode cX11_size 17 = .ok (.getfield 40, 3) := dB_36_3_6.1.2.2.2
theorem dX11_size_20 : decode cX11_size 20 = .ok (.bipush (-9), 2) := dB_36_3_6.2.1.1.1
theorem dX11_size_22 : decode cX11_size 22 = .ok (.invokevirtual 190, 3) := dB_36_3_6.2.1.1.2
theorem dX11_size_25 : decode cX11_size 25 = .ok (.aload_n 0, 1) := dB_36_3_6.2.1.2.1
theorem dX11_size_26 : decode cX11_size 26 = .ok (.getfield 40, 3) := dB_36_3_6.2.1.2.2
theorem dX11_size_29 : decode cX11_size 29 = .ok (.iload_n 3, 1) := dB_36_3_6.2.2.1.1
theorem dX11_size_30 : decode cX11_size 30 = .ok (.iconst 1, 1) := dB_36_3_6.2.2.1.2
theorem dX11_size_31 : decode cX11_size 31 = .ok (.iload_n 1, 1) := dB_36_3_6.2.2.2.1
theorem dX11_size_32 : decode cX11_size 32 = .ok (.ishl, 1) := dB_36_3_6.2.2.2.2
theorem dB_36_3_7 : ((((decode cX11_size 33 = .ok (.ior, 1)) ∧ (decode cX11_size 34 = .ok (.iconst 1, 1))) ∧ ((decode cX11_size 35 = .ok (.iload_n 2, 1)) ∧ (decode cX11_size 36 = .ok (.ishl, 1)))) ∧ (((decode cX11_size 37 = .ok (.iconst (-1), 1)) ∧ (decode cX11_size 38 = .ok (.ixor, 1))) ∧ ((decode cX11_size 39 = .ok (.iand, 1)) ∧ (decode cX11_size 40 = .ok (.invokevirtual 194, 3))))) ∧ ((((decode cX11_size 43 = .ok (.istore 4, 2)) ∧ (decode cX11_size 45 = .ok (.iload 4, 2))) ∧ ((decode cX11_size 47 = .ok (.ldc 197, 2)) ∧ (decode cX11_size 49 = .ok (.if_icmp .lt 8, 3)))) ∧ (((decode cX11_size 52 = .ok (.bipush (-5), 2)) ∧ (decode cX11_size 54 = .ok (.goto 5, 3))) ∧ ((decode cX11_size 57 = .ok (.iload 4, 2)) ∧ (decode cX11_size 59 = .ok (.ireturn, 1))))) := by first | decide +kernel | ((repeat' apply And.intro) <;> decide +kernel)
theorem dX11_size_33 : decode cX11_size 33 = .ok (.ior, 1) := dB_36_3_7.1.1.1.1
theorem dX11_size_34 : decode cX11_size 34 = .ok (.iconst 1, 1) := dB_36_3_7.1.1.1.2
theorem dX11_size_35 : decode cX11_size 35 = .ok (.iload_n 2, 1) := dB_36_3_7.1.1.2.1
theorem dX11_size_36 : decode cX11_size 36 = .ok (.ishl, 1) := dB_36_3_7.1.1.2.2
theorem dX11_size_37 : decode cX11_size 37 = .ok (.iconst (-1), 1) := dB_36_3_7.1.2.1.1
theorem dX11_size_38 : decode cX11_size 38 = .ok (.ixor, 1) := dB_36_3_7.1.2.1.2
theorem dX11_size_39 : decode cX11_size 39 = .ok (.iand, 1) := dB_36_3_7.1.2.2.1
theorem dX11_size_40 : decode cX11_size 40 = .ok (.invokevirtual 194, 3) := dB_36_3_7.1.2.2.2
theorem dX11_size_43 : decode cX11_size 43 = .ok (.istore 4, 2) := dB_36_3_7.2.1.1.1
theorem dX11_size_45 : decode cX11_size 45 = .ok (.iload 4, 2) := dB_36_3_7.2.1.1.2
theorem dX11_size_47 : decode cX11_size 47 = .ok (.ldc 197, 2) := dB_36_3_7.2.1.2.1
theorem dX11_size_49 : decode cX11_size 49 = .ok (.if_icmp .lt 8, 3) := dB_36_3_7.2.1.2.2
theorem dX11_size_52 : decode cX11_size 52 = .ok (.bipush (-5), 2) := dB_36_3_7.2.2.1.1
theorem dX11_size_54 : decode cX11_size 54 = .ok (.goto 5, 3) := dB_36_3_7.2.2.1.2
theorem dX11_size_57 : decode cX11_size 57 = .ok (.iload 4, 2) := dB_36_3_7.2.2.2.1
theorem dX11_size_59 : decode cX11_size 59 = .ok (.ireturn, 1) := dB_36_3_7.2.2.2.2
theorem dB_36_3_8 : ((((decode cX11_raise 0 = .ok (.aload_n 0, 1)) ∧ (decode cX11_raise 1 = .ok (.getfield 31, 3))) ∧ ((decode cX11_raise 4 = .ok (.iload_n 1, 1)) ∧ (decode cX11_raise 5 = .ok (.i2l, 1)))) ∧ (((decode cX11_raise 6 = .ok (.iload_n 2, 1)) ∧ (decode cX11_raise 7 = .ok (.i2l, 1))) ∧ ((decode cX11_raise 8 = .ok (.invokevirtual 135, 3)) ∧ (decode cX11_raise 11 = .ok (.ifCond .eq 14, 3))))) ∧ ((((decode cX11_raise 14 = .ok (.aload_n 0, 1)) ∧ (decode cX11_raise 15 = .ok (.getfield 31, 3))) ∧ ((decode cX11_raise 18 = .ok (.iload_n 3, 1)) ∧ (decode cX11_raise 19 = .ok (.invokevirtual 112, 3)))) ∧ (((decode cX11_raise 22 = .ok (.ifCond .ne 5, 3)) ∧ (decode cX11_raise 25 = .ok (.iconst (-1), 1))) ∧ ((decode cX11_raise 26 = .ok (.ireturn, 1)) ∧ (decode cX11_raise 27 = .ok (.aload_n 0, 1))))) := by first | decide +kernel | ((repeat' apply And.intro) <;> decide +kernel)
theorem dX11_raise_0 : decode cX11_raise 0 = .ok (.aload_n 0, 1) := dB_36_3_8.1.1.1.1
theorem dX11_raise_1 : decode cX11_raise 1 = .ok (.getfield 31, 3) := dB_36_3_8.1.1.1.2
theorem dX11_raise_4 : decode cX11_raise 4 = .ok (.iload_n 1, 1) := dB_36_3_8.1.1.2.1
theorem dX11_raise_5 : decode cX11_raise 5 = .ok (.i2l, 1) := dB_36_3_8.1.1.2.2
theorem dX11_raise_6 : decode cX11_raise 6 = .ok (.iload_n 2, 1) := dB_36_3_8.1.2.1.1
theorem dX11_raise_7 : decode cX11_raise 7 = .ok (.i2l, 1) := dB_36_3_8.1.2.1.2
theorem dX11_raise_8 : decode cX11_raise 8 = .ok (.invokevirtual 135, 3) := dB_36_3_8.1.2.2.1
theorem dX11_raise_11 : decode cX11_raise 11 = .ok (.ifCond .eq 14, 3) := dB_36_3_8.1.2.2.2
theorem dX11_raise_14 : decode cX11_raise 14 = .ok (.aload_n 0, 1) := dB_36_3_8.2.1.1.1
theorem dX11_raise_15 : decode cX11_raise 15 = .ok (.getfield 31, 3) := dB_36_3_8.2.1.1.2
theorem dX11_raise_18 : decode cX11_raise 18 = .ok (.iload_n 3, 1) := dB_36_3_8.2.1.2.1
theorem dX11_raise_19 : decode cX11_raise 19 = .ok (.invokevirtual 112, 3) := dB_36_3_8.2.1.2.2
theorem dX11_raise_22 : decode cX11_raise 22 = .ok (.ifCond .ne 5, 3) := dB_36_3_8.2.2.1.1
theorem dX11_raise_25 : decode cX11_raise 25 = .ok (.iconst (-1), 1) := dB_36_3_8.2.2.1.2
theorem dX11_raise_26 : decode cX11_raise 26 = .ok (.ireturn, 1) := dB_36_3_8.2.2.2.1
theorem dX11_raise_27 : decode cX11_raise 27 = .ok (.aload_n 0, 1) := dB_36_3_8.2.2.2.2
theorem dB_36_3_9 : ((((decode cX11_raise 28 = .ok (.getfield 31, 3)) ∧ (decode cX11_raise 31 = .ok (.iload_n 3, 1))) ∧ ((decode cX11_raise 32 = .ok (.invokevirtual 126, 3)) ∧ (decode cX11_raise 35 = .ok (.ifCond .eq 6, 3)))) ∧ (((decode cX11_raise 38 = .ok (.bipush (-2), 2)) ∧ (decode cX11_raise 40 = .ok (.ireturn, 1))) ∧ ((decode cX11_raise 41 = .ok (.aload_n 0, 1)) ∧ (decode cX11_raise 42 = .ok (.getfield 40, 3))))) ∧ ((((decode cX11_raise 45 = .ok (.iload_n 3, 1)) ∧ (decode cX11_raise 46 = .ok (.invokevirtual 190, 3))) ∧ ((decode cX11_raise 49 = .ok (.aload_n 0, 1)) ∧ (decode cX11_raise 50 = .ok (.getfield 40, 3)))) ∧ (((decode cX11_raise 53 = .ok (.iload_n 1, 1)) ∧ (decode cX11_raise 54 = .ok (.iload_n 2, 1))) ∧ ((decode cX11_raise 55 = .ok (.invokevirtual 198, 3)) ∧ (decode cX11_raise 58 = .ok (.ireturn, 1))))) := by first | decide +kernel | ((repeat' apply And.intro) <;> decide +kernel)
theorem dX11_raise_28 : decode cX11_raise 28 = .ok (.getfield 31, 3) := dB_36_3_9.1.1.1.1
theorem dX11_raise_31 : decode cX11_raise 31 = .ok (.iload_n 3, 1) := dB_36_3_9.1.1.1.2
theorem dX11_raise_32 : decode cX11_raise 32 = .ok (.invokevirtual 126, 3) := dB_36_3_9.1.1.2.1
theorem dX11_raise_35 : decode cX11_raise 35 = .ok (.ifCond .eq 6, 3) := dB_36_3_9.1.1.2.2
theorem dX11_raise_38 : decode cX11_raise 38 = .ok (.bipush (-2), 2) := dB_36_3_9.1.2.1.1
theorem dX11_raise_40 : decode cX11_raise 40 = .ok (.ireturn, 1) := dB_36_3_9.1.2.1.2
theorem dX11_raise_41 : decode cX11_raise 41 = .ok (.aload_n 0, 1) := dB_36_3_9.1.2.2.1
theorem dX11_raise_42 : decode cX11_raise 42 = .ok (.getfield 40, 3) := dB_36_3_9.1.2.2.2
theorem dX11_raise_45 : decode cX11_raise 45 = .ok (.iload_n 3, 1) := dB_36_3_9.2.1.1.1
theorem dX11_raise_46 : decode cX11_raise 46 = .ok (.invokevirtual 190, 3) := dB_36_3_9.2.1.1.2
theorem dX11_raise_49 : decode cX11_raise 49 = .ok (.aload_n 0, 1) := dB_36_3_9.2.1.2.1
theorem dX11_raise_50 : decode cX11_raise 50 = .ok (.getfield 40, 3) := dB_36_3_9.2.1.2.2
theorem dX11_raise_53 : decode cX11_raise 53 = .ok (.iload_n 1, 1) := dB_36_3_9.2.2.1.1
theorem dX11_raise_54 : decode cX11_raise 54 = .ok (.iload_n 2, 1) := dB_36_3_9.2.2.1.2
theorem dX11_raise_55 : decode cX11_raise 55 = .ok (.invokevirtual 198, 3) := dB_36_3_9.2.2.2.1
theorem dX11_raise_58 : decode cX11_raise 58 = .ok (.ireturn, 1) := dB_36_3_9.2.2.2.2
theorem dB_36_3_10 : ((((decode cX11_cheapest 0 = .ok (.aload_n 0, 1)) ∧ (decode cX11_cheapest 1 = .ok (.getfield 31, 3))) ∧ ((decode cX11_cheapest 4 = .ok (.iload_n 1, 1)) ∧ (decode cX11_cheapest 5 = .ok (.i2l, 1)))) ∧ (((decode cX11_cheapest 6 = .ok (.iload_n 2, 1)) ∧ (decode cX11_cheapest 7 = .ok (.i2l, 1))) ∧ ((decode cX11_cheapest 8 = .ok (.invokevirtual 135, 3)) ∧ (decode cX11_cheapest 11 = .ok (.ifCond .eq 14, 3))))) ∧ ((((decode cX11_cheapest 14 = .ok (.iload_n 3, 1)) ∧ (decode cX11_cheapest 15 = .ok (.ifCond .lt 10, 3))) ∧ ((decode cX11_cheapest 18 = .ok (.iload_n 3, 1)) ∧ (decode cX11_cheapest 19 = .ok (.sipush 500, 3)))) ∧ (((decode cX11_cheapest 22 = .ok (.if_icmp .le 5, 3)) ∧ (decode cX11_cheapest 25 = .ok (.iconst (-1), 1))) ∧ ((decode cX11_cheapest 26 = .ok (.ireturn, 1)) ∧ (decode cX11_cheapest 27 = .ok (.aload_n 0, 1))))) := by first | decide +kernel | ((repeat' apply And.intro) <;> decide +kernel)
theorem dX11_cheapest_0 : decode cX11_cheapest 0 = .ok (.aload_n 0, 1) := dB_36_3_10.1.1.1.1
theorem dX11_cheapest_1 : decode cX11_cheapest 1 = .ok (.getfield 31, 3) := dB_36_3_10.1.1.1.2
theorem dX11_cheapest_4 : decode cX11_cheapest 4 = .ok (.iload_n 1, 1) := dB_36_3_10.1.1.2.1
theorem dX11_cheapest_5 : decode cX11_cheapest 5 = .ok (.i2l, 1) := dB_36_3_10.1.1.2.2
theorem dX11_cheapest_6 : decode cX11_cheapest 6 = .ok (.iload_n 2, 1) := dB_36_3_10.1.2.1.1
theorem dX11_cheapest_7 : decode cX11_cheapest 7 = .ok (.i2l, 1) := dB_36_3_10.1.2.1.2
theorem dX11_cheapest_8 : decode cX11_cheapest 8 = .ok (.invokevirtual 135, 3) := dB_36_3_10.1.2.2.1
theorem dX11_cheapest_11 : decode cX11_cheapest 11 = .ok (.ifCond .eq 14, 3) := dB_36_3_10.1.2.2.2
theorem dX11_cheapest_14 : decode cX11_cheapest 14 = .ok (.iload_n 3, 1) := dB_36_3_10.2.1.1.1
theorem dX11_cheapest_15 : decode cX11_cheapest 15 = .ok (.ifCond .lt 10, 3) := dB_36_3_10.2.1.1.2
theorem dX11_cheapest_18 : decode cX11_cheapest 18 = .ok (.iload_n 3, 1) := dB_36_3_10.2.1.2.1
theorem dX11_cheapest_19 : decode cX11_cheapest 19 = .ok (.sipush 500, 3) := dB_36_3_10.2.1.2.2
theorem dX11_cheapest_22 : decode cX11_cheapest 22 = .ok (.if_icmp .le 5, 3) := dB_36_3_10.2.2.1.1
theorem dX11_cheapest_25 : decode cX11_cheapest 25 = .ok (.iconst (-1), 1) := dB_36_3_10.2.2.1.2
theorem dX11_cheapest_26 : decode cX11_cheapest 26 = .ok (.ireturn, 1) := dB_36_3_10.2.2.2.1
theorem dX11_cheapest_27 : decode cX11_cheapest 27 = .ok (.aload_n 0, 1) := dB_36_3_10.2.2.2.2
theorem dB_36_3_11 : ((((decode cX11_cheapest 28 = .ok (.iload_n 1, 1)) ∧ (decode cX11_cheapest 29 = .ok (.iload_n 2, 1))) ∧ ((decode cX11_cheapest 30 = .ok (.invokevirtual 169, 3)) ∧ (decode cX11_cheapest 33 = .ok (.istore 4, 2)))) ∧ (((decode cX11_cheapest 35 = .ok (.iload 4, 2)) ∧ (decode cX11_cheapest 37 = .ok (.bipush (-5), 2))) ∧ ((decode cX11_cheapest 39 = .ok (.if_icmp .eq 9, 3)) ∧ (decode cX11_cheapest 42 = .ok (.iload 4, 2))))) ∧ ((((decode cX11_cheapest 44 = .ok (.iload_n 3, 1)) ∧ (decode cX11_cheapest 45 = .ok (.if_icmp .lt 5, 3))) ∧ ((decode cX11_cheapest 48 = .ok (.iconst 0, 1)) ∧ (decode cX11_cheapest 49 = .ok (.ireturn, 1)))) ∧ (((decode cX11_cheapest 50 = .ok (.aload_n 0, 1)) ∧ (decode cX11_cheapest 51 = .ok (.getfield 65, 3))) ∧ ((decode cX11_cheapest 54 = .ok (.iload_n 1, 1)) ∧ (decode cX11_cheapest 55 = .ok (.iload_n 2, 1))))) := by first | decide +kernel | ((repeat' apply And.intro) <;> decide +kernel)
theorem dX11_cheapest_28 : decode cX11_cheapest 28 = .ok (.iload_n 1, 1) := dB_36_3_11.1.1.1.1
theorem dX11_cheapest_29 : decode cX11_cheapest 29 = .ok (.iload_n 2, 1) := dB_36_3_11.1.1.1.2
theorem dX11_cheapest_30 : decode cX11_cheapest 30 = .ok (.invokevirtual 169, 3) := dB_36_3_11.1.1.2.1
theorem dX11_cheapest_33 : decode cX11_cheapest 33 = .ok (.istore 4, 2) := dB_36_3_11.1.1.2.2
theorem dX11_cheapest_35 : decode cX11_cheapest 35 = .ok (.iload 4, 2) := dB_36_3_11.1.2.1.1
theorem dX11_cheapest_37 : decode cX11_cheapest 37 = .ok (.bipush (-5), 2) := dB_36_3_11.1.2.1.2
theorem dX11_cheapest_39 : decode cX11_cheapest 39 = .ok (.if_icmp .eq 9, 3) := dB_36_3_11.1.2.2.1
theorem dX11_cheapest_42 : decode cX11_cheapest 42 = .ok (.iload 4, 2) := dB_36_3_11.1.2.2.2
theorem dX11_cheapest_44 : decode cX11_cheapest 44 = .ok (.iload_n 3, 1) := dB_36_3_11.2.1.1.1
theorem dX11_cheapest_45 : decode cX11_cheapest 45 = .ok (.if_icmp .lt 5, 3) := dB_36_3_11.2.1.1.2
theorem dX11_cheapest_48 : decode cX11_cheapest 48 = .ok (.iconst 0, 1) := dB_36_3_11.2.1.2.1
theorem dX11_cheapest_49 : decode cX11_cheapest 49 = .ok (.ireturn, 1) := dB_36_3_11.2.1.2.2
theorem dX11_cheapest_50 : decode cX11_cheapest 50 = .ok (.aload_n 0, 1) := dB_36_3_11.2.2.1.1
theorem dX11_cheapest_51 : decode cX11_cheapest 51 = .ok (.getfield 65, 3) := dB_36_3_11.2.2.1.2
theorem dX11_cheapest_54 : decode cX11_cheapest 54 = .ok (.iload_n 1, 1) := dB_36_3_11.2.2.2.1
theorem dX11_cheapest_55 : decode cX11_cheapest 55 = .ok (.iload_n 2, 1) := dB_36_3_11.2.2.2.2
theorem dB_36_3_12 : ((((decode cX11_cheapest 56 = .ok (.iload_n 3, 1)) ∧ (decode cX11_cheapest 57 = .ok (.iload 4, 2))) ∧ ((decode cX11_cheapest 59 = .ok (.isub, 1)) ∧ (decode cX11_cheapest 60 = .ok (.invokevirtual 201, 3)))) ∧ (((decode cX11_cheapest 63 = .ok (.ireturn, 1)) ∧ (decode cX11_tree 0 = .ok (.iload_n 2, 1))) ∧ ((decode cX11_tree 1 = .ok (.ifCond .lt 8, 3)) ∧ (decode cX11_tree 4 = .ok (.iload_n 2, 1))))) ∧ ((((decode cX11_tree 5 = .ok (.iconst 1, 1)) ∧ (decode cX11_tree 6 = .ok (.if_icmp .le 5, 3))) ∧ ((decode cX11_tree 9 = .ok (.iconst (-1), 1)) ∧ (decode cX11_tree 10 = .ok (.ireturn, 1)))) ∧ (((decode cX11_tree 11 = .ok (.aload_n 0, 1)) ∧ (decode cX11_tree 12 = .ok (.getfield 31, 3))) ∧ ((decode cX11_tree 15 = .ok (.invokevirtual 204, 3)) ∧ (decode cX11_tree 18 = .ok (.ifCond .ne 6, 3))))) := by first | decide +kernel | ((repeat' apply And.intro) <;> decide +kernel)
theorem dX11_cheapest_56 : decode cX11_cheapest 56 = .ok (.iload_n 3, 1) := dB_36_3_12.1.1.1.1
theorem dX11_cheapest_57 : decode cX11_cheapest 57 = .ok (.iload 4, 2) := dB_36_3_12.1.1.1.2
theorem dX11_cheapest_59 : decode cX11_cheapest 59 = .ok (.isub, 1) := dB_36_3_12.1.1.2.1
theorem dX11_cheapest_60 : decode cX11_cheapest 60 = .ok (.invokevirtual 201, 3) := dB_36_3_12.1.1.2.2
theorem dX11_cheapest_63 : decode cX11_cheapest 63 = .ok (.ireturn, 1) := dB_36_3_12.1.2.1.1
theorem dX11_tree_0 : decode cX11_tree 0 = .ok (.iload_n 2, 1) := dB_36_3_12.1.2.1.2
theorem dX11_tree_1 : decode cX11_tree 1 = .ok (.ifCond .lt 8, 3) := dB_36_3_12.1.2.2.1
theorem dX11_tree_4 : decode cX11_tree 4 = .ok (.iload_n 2, 1) := dB_36_3_12.1.2.2.2
theorem dX11_tree_5 : decode cX11_tree 5 = .ok (.iconst 1, 1) := dB_36_3_12.2.1.1.1
theorem dX11_tree_6 : decode cX11_tree 6 = .ok (.if_icmp .le 5, 3) := dB_36_3_12.2.1.1.2
theorem dX11_tree_9 : decode cX11_tree 9 = .ok (.iconst (-1), 1) := dB_36_3_12.2.1.2.1
theorem dX11_tree_10 : decode cX11_tree 10 = .ok (.ireturn, 1) := dB_36_3_12.2.1.2.2
theorem dX11_tree_11 : decode cX11_tree 11 = .ok (.aload_n 0, 1) := dB_36_3_12.2.2.1.1
theorem dX11_tree_12 : decode cX11_tree 12 = .ok (.getfield 31, 3) := dB_36_3_12.2.2.1.2
theorem dX11_tree_15 : decode cX11_tree 15 = .ok (.invokevirtual 204, 3) := dB_36_3_12.2.2.2.1
theorem dX11_tree_18 : decode cX11_tree 18 = .ok (.ifCond .ne 6, 3) := dB_36_3_12.2.2.2.2
theorem dB_36_3_13 : ((((decode cX11_tree 21 = .ok (.bipush (-2), 2)) ∧ (decode cX11_tree 23 = .ok (.ireturn, 1))) ∧ ((decode cX11_tree 24 = .ok (.aload_n 0, 1)) ∧ (decode cX11_tree 25 = .ok (.getfield 31, 3)))) ∧ (((decode cX11_tree 28 = .ok (.iload_n 1, 1)) ∧ (decode cX11_tree 29 = .ok (.i2l, 1))) ∧ ((decode cX11_tree 30 = .ok (.invokevirtual 208, 3)) ∧ (decode cX11_tree 33 = .ok (.ifCond .ne 5, 3))))) ∧ ((((decode cX11_tree 36 = .ok (.iconst (-1), 1)) ∧ (decode cX11_tree 37 = .ok (.ireturn, 1))) ∧ ((decode cX11_tree 38 = .ok (.aload_n 0, 1)) ∧ (decode cX11_tree 39 = .ok (.getfield 56, 3)))) ∧ (((decode cX11_tree 42 = .ok (.invokevirtual 212, 3)) ∧ (decode cX11_tree 45 = .ok (.iload_n 2, 1))) ∧ ((decode cX11_tree 46 = .ok (.ifCond .ne 15, 3)) ∧ (decode cX11_tree 49 = .ok (.aload_n 0, 1))))) := by first | decide +kernel | ((repeat' apply And.intro) <;> decide +kernel)
theorem dX11_tree_21 : decode cX11_tree 21 = .ok (.bipush (-2), 2) := dB_36_3_13.1.1.1.1
theorem dX11_tree_23 : decode cX11_tree 23 = .ok (.ireturn, 1) := dB_36_3_13.1.1.1.2
theorem dX11_tree_24 : decode cX11_tree 24 = .ok (.aload_n 0, 1) := dB_36_3_13.1.1.2.1
theorem dX11_tree_25 : decode cX11_tree 25 = .ok (.getfield 31, 3) := dB_36_3_13.1.1.2.2
theorem dX11_tree_28 : decode cX11_tree 28 = .ok (.iload_n 1, 1) := dB_36_3_13.1.2.1.1
theorem dX11_tree_29 : decode cX11_tree 29 = .ok (.i2l, 1) := dB_36_3_13.1.2.1.2
theorem dX11_tree_30 : decode cX11_tree 30 = .ok (.invokevirtual 208, 3) := dB_36_3_13.1.2.2.1
theorem dX11_tree_33 : decode cX11_tree 33 = .ok (.ifCond .ne 5, 3) := dB_36_3_13.1.2.2.2
theorem dX11_tree_36 : decode cX11_tree 36 = .ok (.iconst (-1), 1) := dB_36_3_13.2.1.1.1
theorem dX11_tree_37 : decode cX11_tree 37 = .ok (.ireturn, 1) := dB_36_3_13.2.1.1.2
theorem dX11_tree_38 : decode cX11_tree 38 = .ok (.aload_n 0, 1) := dB_36_3_13.2.1.2.1
theorem dX11_tree_39 : decode cX11_tree 39 = .ok (.getfield 56, 3) := dB_36_3_13.2.1.2.2
theorem dX11_tree_42 : decode cX11_tree 42 = .ok (.invokevirtual 212, 3) := dB_36_3_13.2.2.1.1
theorem dX11_tree_45 : decode cX11_tree 45 = .ok (.iload_n 2, 1) := dB_36_3_13.2.2.1.2
theorem dX11_tree_46 : decode cX11_tree 46 = .ok (.ifCond .ne 15, 3) := dB_36_3_13.2.2.2.1
theorem dX11_tree_49 : decode cX11_tree 49 = .ok (.aload_n 0, 1) := dB_36_3_13.2.2.2.2
theorem dB_36_3_14 : ((((decode cX11_tree 50 = .ok (.getfield 56, 3)) ∧ (decode cX11_tree 53 = .ok (.getfield 215, 3))) ∧ ((decode cX11_tree 56 = .ok (.iload_n 1, 1)) ∧ (decode cX11_tree 57 = .ok (.iaload, 1)))) ∧ (((decode cX11_tree 58 = .ok (.goto 12, 3)) ∧ (decode cX11_tree 61 = .ok (.aload_n 0, 1))) ∧ ((decode cX11_tree 62 = .ok (.getfield 56, 3)) ∧ (decode cX11_tree 65 = .ok (.getfield 218, 3))))) ∧ ((((decode cX11_tree 68 = .ok (.iload_n 1, 1)) ∧ (decode cX11_tree 69 = .ok (.iaload, 1))) ∧ ((decode cX11_tree 70 = .ok (.ireturn, 1)) ∧ (decode cX11_between 0 = .ok (.aload_n 0, 1)))) ∧ (((decode cX11_between 1 = .ok (.getfield 31, 3)) ∧ (decode cX11_between 4 = .ok (.invokevirtual 204, 3))) ∧ ((decode cX11_between 7 = .ok (.ifCond .ne 6, 3)) ∧ (decode cX11_between 10 = .ok (.bipush (-2), 2))))) := by first | decide +kernel | ((repeat' apply And.intro) <;> decide +kernel)
theorem dX11_tree_50 : decode cX11_tree 50 = .ok (.getfield 56, 3) := dB_36_3_14.1.1.1.1
theorem dX11_tree_53 : decode cX11_tree 53 = .ok (.getfield 215, 3) := dB_36_3_14.1.1.1.2
theorem dX11_tree_56 : decode cX11_tree 56 = .ok (.iload_n 1, 1) := dB_36_3_14.1.1.2.1
theorem dX11_tree_57 : decode cX11_tree 57 = .ok (.iaload, 1) := dB_36_3_14.1.1.2.2
theorem dX11_tree_58 : decode cX11_tree 58 = .ok (.goto 12, 3) := dB_36_3_14.1.2.1.1
theorem dX11_tree_61 : decode cX11_tree 61 = .ok (.aload_n 0, 1) := dB_36_3_14.1.2.1.2
theorem dX11_tree_62 : decode cX11_tree 62 = .ok (.getfield 56, 3) := dB_36_3_14.1.2.2.1
theorem dX11_tree_65 : decode cX11_tree 65 = .ok (.getfield 218, 3) := dB_36_3_14.1.2.2.2
theorem dX11_tree_68 : decode cX11_tree 68 = .ok (.iload_n 1, 1) := dB_36_3_14.2.1.1.1
theorem dX11_tree_69 : decode cX11_tree 69 = .ok (.iaload, 1) := dB_36_3_14.2.1.1.2
theorem dX11_tree_70 : decode cX11_tree 70 = .ok (.ireturn, 1) := dB_36_3_14.2.1.2.1
theorem dX11_between_0 : decode cX11_between 0 = .ok (.aload_n 0, 1) := dB_36_3_14.2.1.2.2
theorem dX11_between_1 : decode cX11_between 1 = .ok (.getfield 31, 3) := dB_36_3_14.2.2.1.1
theorem dX11_between_4 : decode cX11_between 4 = .ok (.invokevirtual 204, 3) := dB_36_3_14.2.2.1.2
theorem dX11_between_7 : decode cX11_between 7 = .ok (.ifCond .ne 6, 3) := dB_36_3_14.2.2.2.1
theorem dX11_between_10 : decode cX11_between 10 = .ok (.bipush (-2), 2) := dB_36_3_14.2.2.2.2
theorem dB_36_3_15 : ((((decode cX11_between 12 = .ok (.ireturn, 1)) ∧ (decode cX11_between 13 = .ok (.aload_n 0, 1))) ∧ ((decode cX11_between 14 = .ok (.getfield 31, 3)) ∧ (decode cX11_between 17 = .ok (.iload_n 1, 1)))) ∧ (((decode cX11_between 18 = .ok (.i2l, 1)) ∧ (decode cX11_between 19 = .ok (.iload_n 2, 1))) ∧ ((decode cX11_between 20 = .ok (.i2l, 1)) ∧ (decode cX11_between 21 = .ok (.invokevirtual 135, 3))))) ∧ ((((decode cX11_between 24 = .ok (.ifCond .ne 5, 3)) ∧ (decode cX11_between 27 = .ok (.iconst (-1), 1))) ∧ ((decode cX11_between 28 = .ok (.ireturn, 1)) ∧ (decode cX11_between 29 = .ok (.aload_n 0, 1)))) ∧ (((decode cX11_between 30 = .ok (.getfield 56, 3)) ∧ (decode cX11_between 33 = .ok (.invokevirtual 212, 3))) ∧ ((decode cX11_between 36 = .ok (.aload_n 0, 1)) ∧ (decode cX11_between 37 = .ok (.getfield 56, 3))))) := by first | decide +kernel | ((repeat' apply And.intro) <;> decide +kernel)
theorem dX11_between_12 : decode cX11_between 12 = .ok (.ireturn, 1) := dB_36_3_15.1.1.1.1
theorem dX11_between_13 : decode cX11_between 13 = .ok (.aload_n 0, 1) := dB_36_3_15.1.1.1.2
theorem dX11_between_14 : decode cX11_between 14 = .ok (.getfield 31, 3) := dB_36_3_15.1.1.2.1
theorem dX11_between_17 : decode cX11_between 17 = .ok (.iload_n 1, 1) := dB_36_3_15.1.1.2.2
theorem dX11_between_18 : decode cX11_between 18 = .ok (.i2l, 1) := dB_36_3_15.1.2.1.1
theorem dX11_between_19 : decode cX11_between 19 = .ok (.iload_n 2, 1) := dB_36_3_15.1.2.1.2
theorem dX11_between_20 : decode cX11_between 20 = .ok (.i2l, 1) := dB_36_3_15.1.2.2.1
theorem dX11_between_21 : decode cX11_between 21 = .ok (.invokevirtual 135, 3) := dB_36_3_15.1.2.2.2
theorem dX11_between_24 : decode cX11_between 24 = .ok (.ifCond .ne 5, 3) := dB_36_3_15.2.1.1.1
theorem dX11_between_27 : decode cX11_between 27 = .ok (.iconst (-1), 1) := dB_36_3_15.2.1.1.2
theorem dX11_between_28 : decode cX11_between 28 = .ok (.ireturn, 1) := dB_36_3_15.2.1.2.1
theorem dX11_between_29 : decode cX11_between 29 = .ok (.aload_n 0, 1) := dB_36_3_15.2.1.2.2
theorem dX11_between_30 : decode cX11_between 30 = .ok (.getfield 56, 3) := dB_36_3_15.2.2.1.1
theorem dX11_between_33 : decode cX11_between 33 = .ok (.invokevirtual 212, 3) := dB_36_3_15.2.2.1.2
theorem dX11_between_36 : decode cX11_between 36 = .ok (.aload_n 0, 1) := dB_36_3_15.2.2.2.1
theorem dX11_between_37 : decode cX11_between 37 = .ok (.getfield 56, 3) := dB_36_3_15.2.2.2.2
theorem dB_36_3_16 : ((((decode cX11_between 40 = .ok (.iload_n 1, 1)) ∧ (decode cX11_between 41 = .ok (.iload_n 2, 1))) ∧ ((decode cX11_between 42 = .ok (.invokevirtual 221, 3)) ∧ (decode cX11_between 45 = .ok (.ireturn, 1)))) ∧ (((decode cX11_least 0 = .ok (.aload_n 0, 1)) ∧ (decode cX11_least 1 = .ok (.getfield 31, 3))) ∧ ((decode cX11_least 4 = .ok (.invokevirtual 204, 3)) ∧ (decode cX11_least 7 = .ok (.ifCond .ne 6, 3))))) ∧ ((((decode cX11_least 10 = .ok (.bipush (-2), 2)) ∧ (decode cX11_least 12 = .ok (.ireturn, 1))) ∧ ((decode cX11_least 13 = .ok (.aload_n 0, 1)) ∧ (decode cX11_least 14 = .ok (.getfield 56, 3)))) ∧ (((decode cX11_least 17 = .ok (.invokevirtual 212, 3)) ∧ (decode cX11_least 20 = .ok (.aload_n 0, 1))) ∧ ((decode cX11_least 21 = .ok (.getfield 56, 3)) ∧ (decode cX11_least 24 = .ok (.invokevirtual 224, 3))))) := by first | decide +kernel | ((repeat' apply And.intro) <;> decide +kernel)
theorem dX11_between_40 : decode cX11_between 40 = .ok (.iload_n 1, 1) := dB_36_3_16.1.1.1.1
theorem dX11_between_41 : decode cX11_between 41 = .ok (.iload_n 2, 1) := dB_36_3_16.1.1.1.2
theorem dX11_between_42 : decode cX11_between 42 = .ok (.invokevirtual 221, 3) := dB_36_3_16.1.1.2.1
theorem dX11_between_45 : decode cX11_between 45 = .ok (.ireturn, 1) := dB_36_3_16.1.1.2.2
theorem dX11_least_0 : decode cX11_least 0 = .ok (.aload_n 0, 1) := dB_36_3_16.1.2.1.1
theorem dX11_least_1 : decode cX11_least 1 = .ok (.getfield 31, 3) := dB_36_3_16.1.2.1.2
theorem dX11_least_4 : decode cX11_least 4 = .ok (.invokevirtual 204, 3) := dB_36_3_16.1.2.2.1
theorem dX11_least_7 : decode cX11_least 7 = .ok (.ifCond .ne 6, 3) := dB_36_3_16.1.2.2.2
theorem dX11_least_10 : decode cX11_least 10 = .ok (.bipush (-2), 2) := dB_36_3_16.2.1.1.1
theorem dX11_least_12 : decode cX11_least 12 = .ok (.ireturn, 1) := dB_36_3_16.2.1.1.2
theorem dX11_least_13 : decode cX11_least 13 = .ok (.aload_n 0, 1) := dB_36_3_16.2.1.2.1
theorem dX11_least_14 : decode cX11_least 14 = .ok (.getfield 56, 3) := dB_36_3_16.2.1.2.2
theorem dX11_least_17 : decode cX11_least 17 = .ok (.invokevirtual 212, 3) := dB_36_3_16.2.2.1.1
theorem dX11_least_20 : decode cX11_least 20 = .ok (.aload_n 0, 1) := dB_36_3_16.2.2.1.2
theorem dX11_least_21 : decode cX11_least 21 = .ok (.getfield 56, 3) := dB_36_3_16.2.2.2.1
theorem dX11_least_24 : decode cX11_least 24 = .ok (.invokevirtual 224, 3) := dB_36_3_16.2.2.2.2
theorem dB_36_3_17 : ((((decode cX11_least 27 = .ok (.ireturn, 1)) ∧ (decode cX11_cuts 0 = .ok (.aload_n 0, 1))) ∧ ((decode cX11_cuts 1 = .ok (.getfield 31, 3)) ∧ (decode cX11_cuts 4 = .ok (.invokevirtual 204, 3)))) ∧ (((decode cX11_cuts 7 = .ok (.ifCond .ne 6, 3)) ∧ (decode cX11_cuts 10 = .ok (.bipush (-2), 2))) ∧ ((decode cX11_cuts 12 = .ok (.ireturn, 1)) ∧ (decode cX11_cuts 13 = .ok (.aload_n 0, 1))))) ∧ ((((decode cX11_cuts 14 = .ok (.getfield 56, 3)) ∧ (decode cX11_cuts 17 = .ok (.invokevirtual 212, 3))) ∧ ((decode cX11_cuts 20 = .ok (.aload_n 0, 1)) ∧ (decode cX11_cuts 21 = .ok (.getfield 49, 3)))) ∧ (((decode cX11_cuts 24 = .ok (.iconst 0, 1)) ∧ (decode cX11_cuts 25 = .ok (.iconst 1, 1))) ∧ ((decode cX11_cuts 26 = .ok (.aload_n 0, 1)) ∧ (decode cX11_cuts 27 = .ok (.getfield 56, 3))))) := by first | decide +kernel | ((repeat' apply And.intro) <;> decide +kernel)
theorem dX11_least_27 : decode cX11_least 27 = .ok (.ireturn, 1) := dB_36_3_17.1.1.1.1
theorem dX11_cuts_0 : decode cX11_cuts 0 = .ok (.aload_n 0, 1) := dB_36_3_17.1.1.1.2
theorem dX11_cuts_1 : decode cX11_cuts 1 = .ok (.getfield 31, 3) := dB_36_3_17.1.1.2.1
theorem dX11_cuts_4 : decode cX11_cuts 4 = .ok (.invokevirtual 204, 3) := dB_36_3_17.1.1.2.2
theorem dX11_cuts_7 : decode cX11_cuts 7 = .ok (.ifCond .ne 6, 3) := dB_36_3_17.1.2.1.1
theorem dX11_cuts_10 : decode cX11_cuts 10 = .ok (.bipush (-2), 2) := dB_36_3_17.1.2.1.2
theorem dX11_cuts_12 : decode cX11_cuts 12 = .ok (.ireturn, 1) := dB_36_3_17.1.2.2.1
theorem dX11_cuts_13 : decode cX11_cuts 13 = .ok (.aload_n 0, 1) := dB_36_3_17.1.2.2.2
theorem dX11_cuts_14 : decode cX11_cuts 14 = .ok (.getfield 56, 3) := dB_36_3_17.2.1.1.1
theorem dX11_cuts_17 : decode cX11_cuts 17 = .ok (.invokevirtual 212, 3) := dB_36_3_17.2.1.1.2
theorem dX11_cuts_20 : decode cX11_cuts 20 = .ok (.aload_n 0, 1) := dB_36_3_17.2.1.2.1
theorem dX11_cuts_21 : decode cX11_cuts 21 = .ok (.getfield 49, 3) := dB_36_3_17.2.1.2.2
theorem dX11_cuts_24 : decode cX11_cuts 24 = .ok (.iconst 0, 1) := dB_36_3_17.2.2.1.1
theorem dX11_cuts_25 : decode cX11_cuts 25 = .ok (.iconst 1, 1) := dB_36_3_17.2.2.1.2
theorem dX11_cuts_26 : decode cX11_cuts 26 = .ok (.aload_n 0, 1) := dB_36_3_17.2.2.2.1
theorem dX11_cuts_27 : decode cX11_cuts 27 = .ok (.getfield 56, 3) := dB_36_3_17.2.2.2.2
theorem dB_36_3_18 : ((((decode cX11_cuts 30 = .ok (.invokevirtual 224, 3)) ∧ (decode cX11_cuts 33 = .ok (.invokevirtual 182, 3))) ∧ ((decode cX11_cuts 36 = .ok (.ireturn, 1)) ∧ (decode cX11_cutAt 0 = .ok (.iload_n 1, 1)))) ∧ (((decode cX11_cutAt 1 = .ok (.ifCond .ge 5, 3)) ∧ (decode cX11_cutAt 4 = .ok (.iconst (-1), 1))) ∧ ((decode cX11_cutAt 5 = .ok (.ireturn, 1)) ∧ (decode cX11_cutAt 6 = .ok (.aload_n 0, 1))))) ∧ ((((decode cX11_cutAt 7 = .ok (.getfield 31, 3)) ∧ (decode cX11_cutAt 10 = .ok (.invokevirtual 204, 3))) ∧ ((decode cX11_cutAt 13 = .ok (.ifCond .ne 6, 3)) ∧ (decode cX11_cutAt 16 = .ok (.bipush (-2), 2)))) ∧ (((decode cX11_cutAt 18 = .ok (.ireturn, 1)) ∧ (decode cX11_cutAt 19 = .ok (.aload_n 0, 1))) ∧ ((decode cX11_cutAt 20 = .ok (.getfield 56, 3)) ∧ (decode cX11_cutAt 23 = .ok (.invokevirtual 212, 3))))) := by first | decide +kernel | ((repeat' apply And.intro) <;> decide +kernel)
theorem dX11_cuts_30 : decode cX11_cuts 30 = .ok (.invokevirtual 224, 3) := dB_36_3_18.1.1.1.1
theorem dX11_cuts_33 : decode cX11_cuts 33 = .ok (.invokevirtual 182, 3) := dB_36_3_18.1.1.1.2
theorem dX11_cuts_36 : decode cX11_cuts 36 = .ok (.ireturn, 1) := dB_36_3_18.1.1.2.1
theorem dX11_cutAt_0 : decode cX11_cutAt 0 = .ok (.iload_n 1, 1) := dB_36_3_18.1.1.2.2
theorem dX11_cutAt_1 : decode cX11_cutAt 1 = .ok (.ifCond .ge 5, 3) := dB_36_3_18.1.2.1.1
theorem dX11_cutAt_4 : decode cX11_cutAt 4 = .ok (.iconst (-1), 1) := dB_36_3_18.1.2.1.2
theorem dX11_cutAt_5 : decode cX11_cutAt 5 = .ok (.ireturn, 1) := dB_36_3_18.1.2.2.1
theorem dX11_cutAt_6 : decode cX11_cutAt 6 = .ok (.aload_n 0, 1) := dB_36_3_18.1.2.2.2
theorem dX11_cutAt_7 : decode cX11_cutAt 7 = .ok (.getfield 31, 3) := dB_36_3_18.2.1.1.1
theorem dX11_cutAt_10 : decode cX11_cutAt 10 = .ok (.invokevirtual 204, 3) := dB_36_3_18.2.1.1.2
theorem dX11_cutAt_13 : decode cX11_cutAt 13 = .ok (.ifCond .ne 6, 3) := dB_36_3_18.2.1.2.1
theorem dX11_cutAt_16 : decode cX11_cutAt 16 = .ok (.bipush (-2), 2) := dB_36_3_18.2.1.2.2
theorem dX11_cutAt_18 : decode cX11_cutAt 18 = .ok (.ireturn, 1) := dB_36_3_18.2.2.1.1
theorem dX11_cutAt_19 : decode cX11_cutAt 19 = .ok (.aload_n 0, 1) := dB_36_3_18.2.2.1.2
theorem dX11_cutAt_20 : decode cX11_cutAt 20 = .ok (.getfield 56, 3) := dB_36_3_18.2.2.2.1
theorem dX11_cutAt_23 : decode cX11_cutAt 23 = .ok (.invokevirtual 212, 3) := dB_36_3_18.2.2.2.2
theorem dB_36_3_19 : ((((decode cX11_cutAt 26 = .ok (.aload_n 0, 1)) ∧ (decode cX11_cutAt 27 = .ok (.getfield 49, 3))) ∧ ((decode cX11_cutAt 30 = .ok (.iconst 0, 1)) ∧ (decode cX11_cutAt 31 = .ok (.iconst 1, 1)))) ∧ (((decode cX11_cutAt 32 = .ok (.aload_n 0, 1)) ∧ (decode cX11_cutAt 33 = .ok (.getfield 56, 3))) ∧ ((decode cX11_cutAt 36 = .ok (.invokevirtual 224, 3)) ∧ (decode cX11_cutAt 39 = .ok (.iload_n 1, 1))))) ∧ ((((decode cX11_cutAt 40 = .ok (.invokevirtual 186, 3)) ∧ (decode cX11_cutAt 43 = .ok (.ireturn, 1))) ∧ ((decode cX11_weak 0 = .ok (.aload_n 0, 1)) ∧ (decode cX11_weak 1 = .ok (.getfield 31, 3)))) ∧ (((decode cX11_weak 4 = .ok (.iload_n 1, 1)) ∧ (decode cX11_weak 5 = .ok (.invokevirtual 112, 3))) ∧ ((decode cX11_weak 8 = .ok (.ifCond .ne 5, 3)) ∧ (decode cX11_weak 11 = .ok (.iconst (-1), 1))))) := by first | decide +kernel | ((repeat' apply And.intro) <;> decide +kernel)
theorem dX11_cutAt_26 : decode cX11_cutAt 26 = .ok (.aload_n 0, 1) := dB_36_3_19.1.1.1.1
theorem dX11_cutAt_27 : decode cX11_cutAt 27 = .ok (.getfield 49, 3) := dB_36_3_19.1.1.1.2
theorem dX11_cutAt_30 : decode cX11_cutAt 30 = .ok (.iconst 0, 1) := dB_36_3_19.1.1.2.1
theorem dX11_cutAt_31 : decode cX11_cutAt 31 = .ok (.iconst 1, 1) := dB_36_3_19.1.1.2.2
theorem dX11_cutAt_32 : decode cX11_cutAt 32 = .ok (.aload_n 0, 1) := dB_36_3_19.1.2.1.1
theorem dX11_cutAt_33 : decode cX11_cutAt 33 = .ok (.getfield 56, 3) := dB_36_3_19.1.2.1.2
theorem dX11_cutAt_36 : decode cX11_cutAt 36 = .ok (.invokevirtual 224, 3) := dB_36_3_19.1.2.2.1
theorem dX11_cutAt_39 : decode cX11_cutAt 39 = .ok (.iload_n 1, 1) := dB_36_3_19.1.2.2.2
theorem dX11_cutAt_40 : decode cX11_cutAt 40 = .ok (.invokevirtual 186, 3) := dB_36_3_19.2.1.1.1
theorem dX11_cutAt_43 : decode cX11_cutAt 43 = .ok (.ireturn, 1) := dB_36_3_19.2.1.1.2
theorem dX11_weak_0 : decode cX11_weak 0 = .ok (.aload_n 0, 1) := dB_36_3_19.2.1.2.1
theorem dX11_weak_1 : decode cX11_weak 1 = .ok (.getfield 31, 3) := dB_36_3_19.2.1.2.2
theorem dX11_weak_4 : decode cX11_weak 4 = .ok (.iload_n 1, 1) := dB_36_3_19.2.2.1.1
theorem dX11_weak_5 : decode cX11_weak 5 = .ok (.invokevirtual 112, 3) := dB_36_3_19.2.2.1.2
theorem dX11_weak_8 : decode cX11_weak 8 = .ok (.ifCond .ne 5, 3) := dB_36_3_19.2.2.2.1
theorem dX11_weak_11 : decode cX11_weak 11 = .ok (.iconst (-1), 1) := dB_36_3_19.2.2.2.2
theorem dB_36_3_20 : ((((decode cX11_weak 12 = .ok (.ireturn, 1)) ∧ (decode cX11_weak 13 = .ok (.aload_n 0, 1))) ∧ ((decode cX11_weak 14 = .ok (.getfield 31, 3)) ∧ (decode cX11_weak 17 = .ok (.invokevirtual 204, 3)))) ∧ (((decode cX11_weak 20 = .ok (.ifCond .eq 14, 3)) ∧ (decode cX11_weak 23 = .ok (.aload_n 0, 1))) ∧ ((decode cX11_weak 24 = .ok (.getfield 31, 3)) ∧ (decode cX11_weak 27 = .ok (.iload_n 1, 1))))) ∧ ((((decode cX11_weak 28 = .ok (.invokevirtual 126, 3)) ∧ (decode cX11_weak 31 = .ok (.ifCond .eq 6, 3))) ∧ ((decode cX11_weak 34 = .ok (.bipush (-2), 2)) ∧ (decode cX11_weak 36 = .ok (.ireturn, 1)))) ∧ (((decode cX11_weak 37 = .ok (.aload_n 0, 1)) ∧ (decode cX11_weak 38 = .ok (.getfield 56, 3))) ∧ ((decode cX11_weak 41 = .ok (.invokevirtual 212, 3)) ∧ (decode cX11_weak 44 = .ok (.aload_n 0, 1))))) := by first | decide +kernel | ((repeat' apply And.intro) <;> decide +kernel)
theorem dX11_weak_12 : decode cX11_weak 12 = .ok (.ireturn, 1) := dB_36_3_20.1.1.1.1
theorem dX11_weak_13 : decode cX11_weak 13 = .ok (.aload_n 0, 1) := dB_36_3_20.1.1.1.2
theorem dX11_weak_14 : decode cX11_weak 14 = .ok (.getfield 31, 3) := dB_36_3_20.1.1.2.1
theorem dX11_weak_17 : decode cX11_weak 17 = .ok (.invokevirtual 204, 3) := dB_36_3_20.1.1.2.2
theorem dX11_weak_20 : decode cX11_weak 20 = .ok (.ifCond .eq 14, 3) := dB_36_3_20.1.2.1.1
theorem dX11_weak_23 : decode cX11_weak 23 = .ok (.aload_n 0, 1) := dB_36_3_20.1.2.1.2
theorem dX11_weak_24 : decode cX11_weak 24 = .ok (.getfield 31, 3) := dB_36_3_20.1.2.2.1
theorem dX11_weak_27 : decode cX11_weak 27 = .ok (.iload_n 1, 1) := dB_36_3_20.1.2.2.2
theorem dX11_weak_28 : decode cX11_weak 28 = .ok (.invokevirtual 126, 3) := dB_36_3_20.2.1.1.1
theorem dX11_weak_31 : decode cX11_weak 31 = .ok (.ifCond .eq 6, 3) := dB_36_3_20.2.1.1.2
theorem dX11_weak_34 : decode cX11_weak 34 = .ok (.bipush (-2), 2) := dB_36_3_20.2.1.2.1
theorem dX11_weak_36 : decode cX11_weak 36 = .ok (.ireturn, 1) := dB_36_3_20.2.1.2.2
theorem dX11_weak_37 : decode cX11_weak 37 = .ok (.aload_n 0, 1) := dB_36_3_20.2.2.1.1
theorem dX11_weak_38 : decode cX11_weak 38 = .ok (.getfield 56, 3) := dB_36_3_20.2.2.1.2
theorem dX11_weak_41 : decode cX11_weak 41 = .ok (.invokevirtual 212, 3) := dB_36_3_20.2.2.2.1
theorem dX11_weak_44 : decode cX11_weak 44 = .ok (.aload_n 0, 1) := dB_36_3_20.2.2.2.2
theorem dB_36_3_21 : ((((decode cX11_weak 45 = .ok (.getfield 56, 3)) ∧ (decode cX11_weak 48 = .ok (.aload_n 0, 1))) ∧ ((decode cX11_weak 49 = .ok (.getfield 31, 3)) ∧ (decode cX11_weak 52 = .ok (.getfield 155, 3)))) ∧ (((decode cX11_weak 55 = .ok (.iload_n 1, 1)) ∧ (decode cX11_weak 56 = .ok (.iaload, 1))) ∧ ((decode cX11_weak 57 = .ok (.aload_n 0, 1)) ∧ (decode cX11_weak 58 = .ok (.getfield 31, 3))))) ∧ ((((decode cX11_weak 61 = .ok (.getfield 158, 3)) ∧ (decode cX11_weak 64 = .ok (.iload_n 1, 1))) ∧ ((decode cX11_weak 65 = .ok (.iaload, 1)) ∧ (decode cX11_weak 66 = .ok (.invokevirtual 221, 3)))) ∧ (((decode cX11_weak 69 = .ok (.aload_n 0, 1)) ∧ (decode cX11_weak 70 = .ok (.getfield 56, 3))) ∧ ((decode cX11_weak 73 = .ok (.invokevirtual 224, 3)) ∧ (decode cX11_weak 76 = .ok (.if_icmp .ne 7, 3))))) := by first | decide +kernel | ((repeat' apply And.intro) <;> decide +kernel)
theorem dX11_weak_45 : decode cX11_weak 45 = .ok (.getfield 56, 3) := dB_36_3_21.1.1.1.1
theorem dX11_weak_48 : decode cX11_weak 48 = .ok (.aload_n 0, 1) := dB_36_3_21.1.1.1.2
theorem dX11_weak_49 : decode cX11_weak 49 = .ok (.getfield 31, 3) := dB_36_3_21.1.1.2.1
theorem dX11_weak_52 : decode cX11_weak 52 = .ok (.getfield 155, 3) := dB_36_3_21.1.1.2.2
theorem dX11_weak_55 : decode cX11_weak 55 = .ok (.iload_n 1, 1) := dB_36_3_21.1.2.1.1
theorem dX11_weak_56 : decode cX11_weak 56 = .ok (.iaload, 1) := dB_36_3_21.1.2.1.2
theorem dX11_weak_57 : decode cX11_weak 57 = .ok (.aload_n 0, 1) := dB_36_3_21.1.2.2.1
theorem dX11_weak_58 : decode cX11_weak 58 = .ok (.getfield 31, 3) := dB_36_3_21.1.2.2.2
theorem dX11_weak_61 : decode cX11_weak 61 = .ok (.getfield 158, 3) := dB_36_3_21.2.1.1.1
theorem dX11_weak_64 : decode cX11_weak 64 = .ok (.iload_n 1, 1) := dB_36_3_21.2.1.1.2
theorem dX11_weak_65 : decode cX11_weak 65 = .ok (.iaload, 1) := dB_36_3_21.2.1.2.1
theorem dX11_weak_66 : decode cX11_weak 66 = .ok (.invokevirtual 221, 3) := dB_36_3_21.2.1.2.2
theorem dX11_weak_69 : decode cX11_weak 69 = .ok (.aload_n 0, 1) := dB_36_3_21.2.2.1.1
theorem dX11_weak_70 : decode cX11_weak 70 = .ok (.getfield 56, 3) := dB_36_3_21.2.2.1.2
theorem dX11_weak_73 : decode cX11_weak 73 = .ok (.invokevirtual 224, 3) := dB_36_3_21.2.2.2.1
theorem dX11_weak_76 : decode cX11_weak 76 = .ok (.if_icmp .ne 7, 3) := dB_36_3_21.2.2.2.2
theorem dB_36_3_22 : ((((decode cX11_weak 79 = .ok (.iconst 1, 1)) ∧ (decode cX11_weak 80 = .ok (.goto 4, 3))) ∧ ((decode cX11_weak 83 = .ok (.iconst 0, 1)) ∧ (decode cX11_weak 84 = .ok (.ireturn, 1)))) ∧ (((decode cX11_part 0 = .ok (.iload_n 1, 1)) ∧ (decode cX11_part 1 = .ok (.ifCond .ge 5, 3))) ∧ ((decode cX11_part 4 = .ok (.iconst (-1), 1)) ∧ (decode cX11_part 5 = .ok (.ireturn, 1))))) ∧ ((((decode cX11_part 6 = .ok (.aload_n 0, 1)) ∧ (decode cX11_part 7 = .ok (.getfield 31, 3))) ∧ ((decode cX11_part 10 = .ok (.invokevirtual 204, 3)) ∧ (decode cX11_part 13 = .ok (.ifCond .ne 6, 3)))) ∧ (((decode cX11_part 16 = .ok (.bipush (-2), 2)) ∧ (decode cX11_part 18 = .ok (.ireturn, 1))) ∧ ((decode cX11_part 19 = .ok (.iload_n 2, 1)) ∧ (decode cX11_part 20 = .ok (.iconst (-1), 1))))) := by first | decide +kernel | ((repeat' apply And.intro) <;> decide +kernel)
theorem dX11_weak_79 : decode cX11_weak 79 = .ok (.iconst 1, 1) := dB_36_3_22.1.1.1.1
theorem dX11_weak_80 : decode cX11_weak 80 = .ok (.goto 4, 3) := dB_36_3_22.1.1.1.2
theorem dX11_weak_83 : decode cX11_weak 83 = .ok (.iconst 0, 1) := dB_36_3_22.1.1.2.1
theorem dX11_weak_84 : decode cX11_weak 84 = .ok (.ireturn, 1) := dB_36_3_22.1.1.2.2
theorem dX11_part_0 : decode cX11_part 0 = .ok (.iload_n 1, 1) := dB_36_3_22.1.2.1.1
theorem dX11_part_1 : decode cX11_part 1 = .ok (.ifCond .ge 5, 3) := dB_36_3_22.1.2.1.2
theorem dX11_part_4 : decode cX11_part 4 = .ok (.iconst (-1), 1) := dB_36_3_22.1.2.2.1
theorem dX11_part_5 : decode cX11_part 5 = .ok (.ireturn, 1) := dB_36_3_22.1.2.2.2
theorem dX11_part_6 : decode cX11_part 6 = .ok (.aload_n 0, 1) := dB_36_3_22.2.1.1.1
theorem dX11_part_7 : decode cX11_part 7 = .ok (.getfield 31, 3) := dB_36_3_22.2.1.1.2
theorem dX11_part_10 : decode cX11_part 10 = .ok (.invokevirtual 204, 3) := dB_36_3_22.2.1.2.1
theorem dX11_part_13 : decode cX11_part 13 = .ok (.ifCond .ne 6, 3) := dB_36_3_22.2.1.2.2
theorem dX11_part_16 : decode cX11_part 16 = .ok (.bipush (-2), 2) := dB_36_3_22.2.2.1.1
theorem dX11_part_18 : decode cX11_part 18 = .ok (.ireturn, 1) := dB_36_3_22.2.2.1.2
theorem dX11_part_19 : decode cX11_part 19 = .ok (.iload_n 2, 1) := dB_36_3_22.2.2.2.1
theorem dX11_part_20 : decode cX11_part 20 = .ok (.iconst (-1), 1) := dB_36_3_22.2.2.2.2
theorem dB_36_3_23 : ((((decode cX11_part 21 = .ok (.if_icmp .eq 17, 3)) ∧ (decode cX11_part 24 = .ok (.aload_n 0, 1))) ∧ ((decode cX11_part 25 = .ok (.getfield 31, 3)) ∧ (decode cX11_part 28 = .ok (.iload_n 2, 1)))) ∧ (((decode cX11_part 29 = .ok (.i2l, 1)) ∧ (decode cX11_part 30 = .ok (.invokevirtual 208, 3))) ∧ ((decode cX11_part 33 = .ok (.ifCond .ne 5, 3)) ∧ (decode cX11_part 36 = .ok (.iconst (-1), 1))))) ∧ ((((decode cX11_part 37 = .ok (.ireturn, 1)) ∧ (decode cX11_part 38 = .ok (.aload_n 0, 1))) ∧ ((decode cX11_part 39 = .ok (.getfield 56, 3)) ∧ (decode cX11_part 42 = .ok (.invokevirtual 212, 3)))) ∧ (((decode cX11_part 45 = .ok (.iload_n 2, 1)) ∧ (decode cX11_part 46 = .ok (.iconst (-1), 1))) ∧ ((decode cX11_part 47 = .ok (.if_icmp .ne 19, 3)) ∧ (decode cX11_part 50 = .ok (.aload_n 0, 1))))) := by first | decide +kernel | ((repeat' apply And.intro) <;> decide +kernel)
theorem dX11_part_21 : decode cX11_part 21 = .ok (.if_icmp .eq 17, 3) := dB_36_3_23.1.1.1.1
theorem dX11_part_24 : decode cX11_part 24 = .ok (.aload_n 0, 1) := dB_36_3_23.1.1.1.2
theorem dX11_part_25 : decode cX11_part 25 = .ok (.getfield 31, 3) := dB_36_3_23.1.1.2.1
theorem dX11_part_28 : decode cX11_part 28 = .ok (.iload_n 2, 1) := dB_36_3_23.1.1.2.2
theorem dX11_part_29 : decode cX11_part 29 = .ok (.i2l, 1) := dB_36_3_23.1.2.1.1
theorem dX11_part_30 : decode cX11_part 30 = .ok (.invokevirtual 208, 3) := dB_36_3_23.1.2.1.2
theorem dX11_part_33 : decode cX11_part 33 = .ok (.ifCond .ne 5, 3) := dB_36_3_23.1.2.2.1
theorem dX11_part_36 : decode cX11_part 36 = .ok (.iconst (-1), 1) := dB_36_3_23.1.2.2.2
theorem dX11_part_37 : decode cX11_part 37 = .ok (.ireturn, 1) := dB_36_3_23.2.1.1.1
theorem dX11_part_38 : decode cX11_part 38 = .ok (.aload_n 0, 1) := dB_36_3_23.2.1.1.2
theorem dX11_part_39 : decode cX11_part 39 = .ok (.getfield 56, 3) := dB_36_3_23.2.1.2.1
theorem dX11_part_42 : decode cX11_part 42 = .ok (.invokevirtual 212, 3) := dB_36_3_23.2.1.2.2
theorem dX11_part_45 : decode cX11_part 45 = .ok (.iload_n 2, 1) := dB_36_3_23.2.2.1.1
theorem dX11_part_46 : decode cX11_part 46 = .ok (.iconst (-1), 1) := dB_36_3_23.2.2.1.2
theorem dX11_part_47 : decode cX11_part 47 = .ok (.if_icmp .ne 19, 3) := dB_36_3_23.2.2.2.1
theorem dX11_part_50 : decode cX11_part 50 = .ok (.aload_n 0, 1) := dB_36_3_23.2.2.2.2
theorem dB_36_3_24 : ((((decode cX11_part 51 = .ok (.getfield 56, 3)) ∧ (decode cX11_part 54 = .ok (.iload_n 1, 1))) ∧ ((decode cX11_part 55 = .ok (.aload_n 0, 1)) ∧ (decode cX11_part 56 = .ok (.getfield 31, 3)))) ∧ (((decode cX11_part 59 = .ok (.getfield 94, 3)) ∧ (decode cX11_part 62 = .ok (.invokevirtual 227, 3))) ∧ ((decode cX11_part 65 = .ok (.ireturn, 1)) ∧ (decode cX11_part 66 = .ok (.aload_n 0, 1))))) ∧ ((((decode cX11_part 67 = .ok (.getfield 56, 3)) ∧ (decode cX11_part 70 = .ok (.iload_n 1, 1))) ∧ ((decode cX11_part 71 = .ok (.aload_n 0, 1)) ∧ (decode cX11_part 72 = .ok (.getfield 56, 3)))) ∧ (((decode cX11_part 75 = .ok (.iload_n 1, 1)) ∧ (decode cX11_part 76 = .ok (.iload_n 2, 1))) ∧ ((decode cX11_part 77 = .ok (.invokevirtual 230, 3)) ∧ (decode cX11_part 80 = .ok (.invokevirtual 227, 3))))) := by first | decide +kernel | ((repeat' apply And.intro) <;> decide +kernel)
theorem dX11_part_51 : decode cX11_part 51 = .ok (.getfield 56, 3) := dB_36_3_24.1.1.1.1
theorem dX11_part_54 : decode cX11_part 54 = .ok (.iload_n 1, 1) := dB_36_3_24.1.1.1.2
theorem dX11_part_55 : decode cX11_part 55 = .ok (.aload_n 0, 1) := dB_36_3_24.1.1.2.1
theorem dX11_part_56 : decode cX11_part 56 = .ok (.getfield 31, 3) := dB_36_3_24.1.1.2.2
theorem dX11_part_59 : decode cX11_part 59 = .ok (.getfield 94, 3) := dB_36_3_24.1.2.1.1
theorem dX11_part_62 : decode cX11_part 62 = .ok (.invokevirtual 227, 3) := dB_36_3_24.1.2.1.2
theorem dX11_part_65 : decode cX11_part 65 = .ok (.ireturn, 1) := dB_36_3_24.1.2.2.1
theorem dX11_part_66 : decode cX11_part 66 = .ok (.aload_n 0, 1) := dB_36_3_24.1.2.2.2
theorem dX11_part_67 : decode cX11_part 67 = .ok (.getfield 56, 3) := dB_36_3_24.2.1.1.1
theorem dX11_part_70 : decode cX11_part 70 = .ok (.iload_n 1, 1) := dB_36_3_24.2.1.1.2
theorem dX11_part_71 : decode cX11_part 71 = .ok (.aload_n 0, 1) := dB_36_3_24.2.1.2.1
theorem dX11_part_72 : decode cX11_part 72 = .ok (.getfield 56, 3) := dB_36_3_24.2.1.2.2
theorem dX11_part_75 : decode cX11_part 75 = .ok (.iload_n 1, 1) := dB_36_3_24.2.2.1.1
theorem dX11_part_76 : decode cX11_part 76 = .ok (.iload_n 2, 1) := dB_36_3_24.2.2.1.2
theorem dX11_part_77 : decode cX11_part 77 = .ok (.invokevirtual 230, 3) := dB_36_3_24.2.2.2.1
theorem dX11_part_80 : decode cX11_part 80 = .ok (.invokevirtual 227, 3) := dB_36_3_24.2.2.2.2
theorem dB_36_3_25 : ((((decode cX11_part 83 = .ok (.ireturn, 1)) ∧ (decode cX11_dense 0 = .ok (.iload_n 1, 1))) ∧ ((decode cX11_dense 1 = .ok (.ifCond .lt 8, 3)) ∧ (decode cX11_dense 4 = .ok (.iload_n 1, 1)))) ∧ (((decode cX11_dense 5 = .ok (.iconst 2, 1)) ∧ (decode cX11_dense 6 = .ok (.if_icmp .le 5, 3))) ∧ ((decode cX11_dense 9 = .ok (.iconst (-1), 1)) ∧ (decode cX11_dense 10 = .ok (.ireturn, 1))))) ∧ ((((decode cX11_dense 11 = .ok (.aload_n 0, 1)) ∧ (decode cX11_dense 12 = .ok (.getfield 31, 3))) ∧ ((decode cX11_dense 15 = .ok (.invokevirtual 204, 3)) ∧ (decode cX11_dense 18 = .ok (.ifCond .ne 6, 3)))) ∧ (((decode cX11_dense 21 = .ok (.bipush (-2), 2)) ∧ (decode cX11_dense 23 = .ok (.ireturn, 1))) ∧ ((decode cX11_dense 24 = .ok (.aload_n 0, 1)) ∧ (decode cX11_dense 25 = .ok (.getfield 40, 3))))) := by first | decide +kernel | ((repeat' apply And.intro) <;> decide +kernel)
theorem dX11_part_83 : decode cX11_part 83 = .ok (.ireturn, 1) := dB_36_3_25.1.1.1.1
theorem dX11_dense_0 : decode cX11_dense 0 = .ok (.iload_n 1, 1) := dB_36_3_25.1.1.1.2
theorem dX11_dense_1 : decode cX11_dense 1 = .ok (.ifCond .lt 8, 3) := dB_36_3_25.1.1.2.1
theorem dX11_dense_4 : decode cX11_dense 4 = .ok (.iload_n 1, 1) := dB_36_3_25.1.1.2.2
theorem dX11_dense_5 : decode cX11_dense 5 = .ok (.iconst 2, 1) := dB_36_3_25.1.2.1.1
theorem dX11_dense_6 : decode cX11_dense 6 = .ok (.if_icmp .le 5, 3) := dB_36_3_25.1.2.1.2
theorem dX11_dense_9 : decode cX11_dense 9 = .ok (.iconst (-1), 1) := dB_36_3_25.1.2.2.1
theorem dX11_dense_10 : decode cX11_dense 10 = .ok (.ireturn, 1) := dB_36_3_25.1.2.2.2
theorem dX11_dense_11 : decode cX11_dense 11 = .ok (.aload_n 0, 1) := dB_36_3_25.2.1.1.1
theorem dX11_dense_12 : decode cX11_dense 12 = .ok (.getfield 31, 3) := dB_36_3_25.2.1.1.2
theorem dX11_dense_15 : decode cX11_dense 15 = .ok (.invokevirtual 204, 3) := dB_36_3_25.2.1.2.1
theorem dX11_dense_18 : decode cX11_dense 18 = .ok (.ifCond .ne 6, 3) := dB_36_3_25.2.1.2.2
theorem dX11_dense_21 : decode cX11_dense 21 = .ok (.bipush (-2), 2) := dB_36_3_25.2.2.1.1
theorem dX11_dense_23 : decode cX11_dense 23 = .ok (.ireturn, 1) := dB_36_3_25.2.2.1.2
theorem dX11_dense_24 : decode cX11_dense 24 = .ok (.aload_n 0, 1) := dB_36_3_25.2.2.2.1
theorem dX11_dense_25 : decode cX11_dense 25 = .ok (.getfield 40, 3) := dB_36_3_25.2.2.2.2
theorem dB_36_3_26 : ((((decode cX11_dense 28 = .ok (.bipush (-9), 2)) ∧ (decode cX11_dense 30 = .ok (.invokevirtual 190, 3))) ∧ ((decode cX11_dense 33 = .ok (.aload_n 0, 1)) ∧ (decode cX11_dense 34 = .ok (.getfield 49, 3)))) ∧ (((decode cX11_dense 37 = .ok (.invokevirtual 233, 3)) ∧ (decode cX11_dense 40 = .ok (.iload_n 1, 1))) ∧ ((decode cX11_dense 41 = .ok (.ifCond .ne 11, 3)) ∧ (decode cX11_dense 44 = .ok (.aload_n 0, 1))))) ∧ ((((decode cX11_dense 45 = .ok (.getfield 49, 3)) ∧ (decode cX11_dense 48 = .ok (.getfield 236, 3))) ∧ ((decode cX11_dense 51 = .ok (.ireturn, 1)) ∧ (decode cX11_dense 52 = .ok (.iload_n 1, 1)))) ∧ (((decode cX11_dense 53 = .ok (.iconst 1, 1)) ∧ (decode cX11_dense 54 = .ok (.if_icmp .ne 13, 3))) ∧ ((decode cX11_dense 57 = .ok (.aload_n 0, 1)) ∧ (decode cX11_dense 58 = .ok (.getfield 49, 3))))) := by first | decide +kernel | ((repeat' apply And.intro) <;> decide +kernel)
theorem dX11_dense_28 : decode cX11_dense 28 = .ok (.bipush (-9), 2) := dB_36_3_26.1.1.1.1
theorem dX11_dense_30 : decode cX11_dense 30 = .ok (.invokevirtual 190, 3) := dB_36_3_26.1.1.1.2
theorem dX11_dense_33 : decode cX11_dense 33 = .ok (.aload_n 0, 1) := dB_36_3_26.1.1.2.1
theorem dX11_dense_34 : decode cX11_dense 34 = .ok (.getfield 49, 3) := dB_36_3_26.1.1.2.2
theorem dX11_dense_37 : decode cX11_dense 37 = .ok (.invokevirtual 233, 3) := dB_36_3_26.1.2.1.1
theorem dX11_dense_40 : decode cX11_dense 40 = .ok (.iload_n 1, 1) := dB_36_3_26.1.2.1.2
theorem dX11_dense_41 : decode cX11_dense 41 = .ok (.ifCond .ne 11, 3) := dB_36_3_26.1.2.2.1
theorem dX11_dense_44 : decode cX11_dense 44 = .ok (.aload_n 0, 1) := dB_36_3_26.1.2.2.2
theorem dX11_dense_45 : decode cX11_dense 45 = .ok (.getfield 49, 3) := dB_36_3_26.2.1.1.1
theorem dX11_dense_48 : decode cX11_dense 48 = .ok (.getfield 236, 3) := dB_36_3_26.2.1.1.2
theorem dX11_dense_51 : decode cX11_dense 51 = .ok (.ireturn, 1) := dB_36_3_26.2.1.2.1
theorem dX11_dense_52 : decode cX11_dense 52 = .ok (.iload_n 1, 1) := dB_36_3_26.2.1.2.2
theorem dX11_dense_53 : decode cX11_dense 53 = .ok (.iconst 1, 1) := dB_36_3_26.2.2.1.1
theorem dX11_dense_54 : decode cX11_dense 54 = .ok (.if_icmp .ne 13, 3) := dB_36_3_26.2.2.1.2
theorem dX11_dense_57 : decode cX11_dense 57 = .ok (.aload_n 0, 1) := dB_36_3_26.2.2.2.1
theorem dX11_dense_58 : decode cX11_dense 58 = .ok (.getfield 49, 3) := dB_36_3_26.2.2.2.2
theorem dB_36_3_27 : ((((decode cX11_dense 61 = .ok (.getfield 239, 3)) ∧ (decode cX11_dense 64 = .ok (.goto 13, 3))) ∧ ((decode cX11_dense 67 = .ok (.aload_n 0, 1)) ∧ (decode cX11_dense 68 = .ok (.getfield 49, 3)))) ∧ (((decode cX11_dense 71 = .ok (.getfield 236, 3)) ∧ (decode cX11_dense 74 = .ok (.invokestatic 242, 3))) ∧ ((decode cX11_dense 77 = .ok (.ireturn, 1)) ∧ (decode cX11_map 0 = .ok (.aload_n 0, 1))))) ∧ ((((decode cX11_map 1 = .ok (.iload_n 1, 1)) ∧ (decode cX11_map 2 = .ok (.iload_n 2, 1))) ∧ ((decode cX11_map 3 = .ok (.iload_n 3, 1)) ∧ (decode cX11_map 4 = .ok (.invokestatic 247, 3)))) ∧ (((decode cX11_map 7 = .ok (.putfield 91, 3)) ∧ (decode cX11_map 10 = .ok (.aload_n 0, 1))) ∧ ((decode cX11_map 11 = .ok (.getfield 91, 3)) ∧ (decode cX11_map 14 = .ok (.ifCond .eq 8, 3))))) := by first | decide +kernel | ((repeat' apply And.intro) <;> decide +kernel)
theorem dX11_dense_61 : decode cX11_dense 61 = .ok (.getfield 239, 3) := dB_36_3_27.1.1.1.1
theorem dX11_dense_64 : decode cX11_dense 64 = .ok (.goto 13, 3) := dB_36_3_27.1.1.1.2
theorem dX11_dense_67 : decode cX11_dense 67 = .ok (.aload_n 0, 1) := dB_36_3_27.1.1.2.1
theorem dX11_dense_68 : decode cX11_dense 68 = .ok (.getfield 49, 3) := dB_36_3_27.1.1.2.2
theorem dX11_dense_71 : decode cX11_dense 71 = .ok (.getfield 236, 3) := dB_36_3_27.1.2.1.1
theorem dX11_dense_74 : decode cX11_dense 74 = .ok (.invokestatic 242, 3) := dB_36_3_27.1.2.1.2
theorem dX11_dense_77 : decode cX11_dense 77 = .ok (.ireturn, 1) := dB_36_3_27.1.2.2.1
theorem dX11_map_0 : decode cX11_map 0 = .ok (.aload_n 0, 1) := dB_36_3_27.1.2.2.2
theorem dX11_map_1 : decode cX11_map 1 = .ok (.iload_n 1, 1) := dB_36_3_27.2.1.1.1
theorem dX11_map_2 : decode cX11_map 2 = .ok (.iload_n 2, 1) := dB_36_3_27.2.1.1.2
theorem dX11_map_3 : decode cX11_map 3 = .ok (.iload_n 3, 1) := dB_36_3_27.2.1.2.1
theorem dX11_map_4 : decode cX11_map 4 = .ok (.invokestatic 247, 3) := dB_36_3_27.2.1.2.2
theorem dX11_map_7 : decode cX11_map 7 = .ok (.putfield 91, 3) := dB_36_3_27.2.2.1.1
theorem dX11_map_10 : decode cX11_map 10 = .ok (.aload_n 0, 1) := dB_36_3_27.2.2.1.2
theorem dX11_map_11 : decode cX11_map 11 = .ok (.getfield 91, 3) := dB_36_3_27.2.2.2.1
theorem dX11_map_14 : decode cX11_map 14 = .ok (.ifCond .eq 8, 3) := dB_36_3_27.2.2.2.2
theorem dB_36_3_28 : ((((decode cX11_map 17 = .ok (.aload_n 0, 1)) ∧ (decode cX11_map 18 = .ok (.getfield 91, 3))) ∧ ((decode cX11_map 21 = .ok (.ireturn, 1)) ∧ (decode cX11_map 22 = .ok (.aload_n 0, 1)))) ∧ (((decode cX11_map 23 = .ok (.getfield 72, 3)) ∧ (decode cX11_map 26 = .ok (.iload_n 1, 1))) ∧ ((decode cX11_map 27 = .ok (.aaload, 1)) ∧ (decode cX11_map 28 = .ok (.iload_n 2, 1))))) ∧ ((((decode cX11_map 29 = .ok (.iload_n 3, 1)) ∧ (decode cX11_map 30 = .ok (.invokevirtual 250, 3))) ∧ ((decode cX11_map 33 = .ok (.iconst 1, 1)) ∧ (decode cX11_map 34 = .ok (.ireturn, 1)))) ∧ (((decode cX11_row 0 = .ok (.aload_n 0, 1)) ∧ (decode cX11_row 1 = .ok (.aload_n 0, 1))) ∧ ((decode cX11_row 2 = .ok (.iload_n 1, 1)) ∧ (decode cX11_row 3 = .ok (.iload_n 2, 1))))) := by first | decide +kernel | ((repeat' apply And.intro) <;> decide +kernel)
theorem dX11_map_17 : decode cX11_map 17 = .ok (.aload_n 0, 1) := dB_36_3_28.1.1.1.1
theorem dX11_map_18 : decode cX11_map 18 = .ok (.getfield 91, 3) := dB_36_3_28.1.1.1.2
theorem dX11_map_21 : decode cX11_map 21 = .ok (.ireturn, 1) := dB_36_3_28.1.1.2.1
theorem dX11_map_22 : decode cX11_map 22 = .ok (.aload_n 0, 1) := dB_36_3_28.1.1.2.2
theorem dX11_map_23 : decode cX11_map 23 = .ok (.getfield 72, 3) := dB_36_3_28.1.2.1.1
theorem dX11_map_26 : decode cX11_map 26 = .ok (.iload_n 1, 1) := dB_36_3_28.1.2.1.2
theorem dX11_map_27 : decode cX11_map 27 = .ok (.aaload, 1) := dB_36_3_28.1.2.2.1
theorem dX11_map_28 : decode cX11_map 28 = .ok (.iload_n 2, 1) := dB_36_3_28.1.2.2.2
theorem dX11_map_29 : decode cX11_map 29 = .ok (.iload_n 3, 1) := dB_36_3_28.2.1.1.1
theorem dX11_map_30 : decode cX11_map 30 = .ok (.invokevirtual 250, 3) := dB_36_3_28.2.1.1.2
theorem dX11_map_33 : decode cX11_map 33 = .ok (.iconst 1, 1) := dB_36_3_28.2.1.2.1
theorem dX11_map_34 : decode cX11_map 34 = .ok (.ireturn, 1) := dB_36_3_28.2.1.2.2
theorem dX11_row_0 : decode cX11_row 0 = .ok (.aload_n 0, 1) := dB_36_3_28.2.2.1.1
theorem dX11_row_1 : decode cX11_row 1 = .ok (.aload_n 0, 1) := dB_36_3_28.2.2.1.2
theorem dX11_row_2 : decode cX11_row 2 = .ok (.iload_n 1, 1) := dB_36_3_28.2.2.2.1
theorem dX11_row_3 : decode cX11_row 3 = .ok (.iload_n 2, 1) := dB_36_3_28.2.2.2.2
theorem dB_36_3_29 : ((((decode cX11_row 4 = .ok (.iload_n 3, 1)) ∧ (decode cX11_row 5 = .ok (.invokevirtual 254, 3))) ∧ ((decode cX11_row 8 = .ok (.putfield 91, 3)) ∧ (decode cX11_row 11 = .ok (.aload_n 0, 1)))) ∧ (((decode cX11_row 12 = .ok (.getfield 91, 3)) ∧ (decode cX11_row 15 = .ok (.ifCond .eq 8, 3))) ∧ ((decode cX11_row 18 = .ok (.aload_n 0, 1)) ∧ (decode cX11_row 19 = .ok (.getfield 91, 3))))) ∧ ((((decode cX11_row 22 = .ok (.ireturn, 1)) ∧ (decode cX11_row 23 = .ok (.aload_n 0, 1))) ∧ ((decode cX11_row 24 = .ok (.getfield 72, 3)) ∧ (decode cX11_row 27 = .ok (.iload_n 1, 1)))) ∧ (((decode cX11_row 28 = .ok (.aaload, 1)) ∧ (decode cX11_row 29 = .ok (.iload_n 2, 1))) ∧ ((decode cX11_row 30 = .ok (.iload_n 3, 1)) ∧ (decode cX11_row 31 = .ok (.invokevirtual 257, 3))))) := by first | decide +kernel | ((repeat' apply And.intro) <;> decide +kernel)
theorem dX11_row_4 : decode cX11_row 4 = .ok (.iload_n 3, 1) := dB_36_3_29.1.1.1.1
theorem dX11_row_5 : decode cX11_row 5 = .ok (.invokevirtual 254, 3) := dB_36_3_29.1.1.1.2
theorem dX11_row_8 : decode cX11_row 8 = .ok (.putfield 91, 3) := dB_36_3_29.1.1.2.1
theorem dX11_row_11 : decode cX11_row 11 = .ok (.aload_n 0, 1) := dB_36_3_29.1.1.2.2
theorem dX11_row_12 : decode cX11_row 12 = .ok (.getfield 91, 3) := dB_36_3_29.1.2.1.1
theorem dX11_row_15 : decode cX11_row 15 = .ok (.ifCond .eq 8, 3) := dB_36_3_29.1.2.1.2
theorem dX11_row_18 : decode cX11_row 18 = .ok (.aload_n 0, 1) := dB_36_3_29.1.2.2.1
theorem dX11_row_19 : decode cX11_row 19 = .ok (.getfield 91, 3) := dB_36_3_29.1.2.2.2
theorem dX11_row_22 : decode cX11_row 22 = .ok (.ireturn, 1) := dB_36_3_29.2.1.1.1
theorem dX11_row_23 : decode cX11_row 23 = .ok (.aload_n 0, 1) := dB_36_3_29.2.1.1.2
theorem dX11_row_24 : decode cX11_row 24 = .ok (.getfield 72, 3) := dB_36_3_29.2.1.2.1
theorem dX11_row_27 : decode cX11_row 27 = .ok (.iload_n 1, 1) := dB_36_3_29.2.1.2.2
theorem dX11_row_28 : decode cX11_row 28 = .ok (.aaload, 1) := dB_36_3_29.2.2.1.1
theorem dX11_row_29 : decode cX11_row 29 = .ok (.iload_n 2, 1) := dB_36_3_29.2.2.1.2
theorem dX11_row_30 : decode cX11_row 30 = .ok (.iload_n 3, 1) := dB_36_3_29.2.2.2.1
theorem dX11_row_31 : decode cX11_row 31 = .ok (.invokevirtual 257, 3) := dB_36_3_29.2.2.2.2
theorem dB_36_3_30 : ((((decode cX11_row 34 = .ok (.iconst 1, 1)) ∧ (decode cX11_row 35 = .ok (.ireturn, 1))) ∧ ((decode cX11_put 0 = .ok (.aload_n 0, 1)) ∧ (decode cX11_put 1 = .ok (.aload_n 0, 1)))) ∧ (((decode cX11_put 2 = .ok (.iload_n 1, 1)) ∧ (decode cX11_put 3 = .ok (.iload_n 2, 1))) ∧ ((decode cX11_put 4 = .ok (.iload_n 3, 1)) ∧ (decode cX11_put 5 = .ok (.iload 4, 2))))) ∧ ((((decode cX11_put 7 = .ok (.invokevirtual 260, 3)) ∧ (decode cX11_put 10 = .ok (.putfield 91, 3))) ∧ ((decode cX11_put 13 = .ok (.aload_n 0, 1)) ∧ (decode cX11_put 14 = .ok (.getfield 91, 3)))) ∧ (((decode cX11_put 17 = .ok (.ifCond .eq 8, 3)) ∧ (decode cX11_put 20 = .ok (.aload_n 0, 1))) ∧ ((decode cX11_put 21 = .ok (.getfield 91, 3)) ∧ (decode cX11_put 24 = .ok (.ireturn, 1))))) := by first | decide +kernel | ((repeat' apply And.intro) <;> decide +kernel)
theorem dX11_row_34 : decode cX11_row 34 = .ok (.iconst 1, 1) := dB_36_3_30.1.1.1.1
theorem dX11_row_35 : decode cX11_row 35 = .ok (.ireturn, 1) := dB_36_3_30.1.1.1.2
theorem dX11_put_0 : decode cX11_put 0 = .ok (.aload_n 0, 1) := dB_36_3_30.1.1.2.1
theorem dX11_put_1 : decode cX11_put 1 = .ok (.aload_n 0, 1) := dB_36_3_30.1.1.2.2
theorem dX11_put_2 : decode cX11_put 2 = .ok (.iload_n 1, 1) := dB_36_3_30.1.2.1.1
theorem dX11_put_3 : decode cX11_put 3 = .ok (.iload_n 2, 1) := dB_36_3_30.1.2.1.2
theorem dX11_put_4 : decode cX11_put 4 = .ok (.iload_n 3, 1) := dB_36_3_30.1.2.2.1
theorem dX11_put_5 : decode cX11_put 5 = .ok (.iload 4, 2) := dB_36_3_30.1.2.2.2
theorem dX11_put_7 : decode cX11_put 7 = .ok (.invokevirtual 260, 3) := dB_36_3_30.2.1.1.1
theorem dX11_put_10 : decode cX11_put 10 = .ok (.putfield 91, 3) := dB_36_3_30.2.1.1.2
theorem dX11_put_13 : decode cX11_put 13 = .ok (.aload_n 0, 1) := dB_36_3_30.2.1.2.1
theorem dX11_put_14 : decode cX11_put 14 = .ok (.getfield 91, 3) := dB_36_3_30.2.1.2.2
theorem dX11_put_17 : decode cX11_put 17 = .ok (.ifCond .eq 8, 3) := dB_36_3_30.2.2.1.1
theorem dX11_put_20 : decode cX11_put 20 = .ok (.aload_n 0, 1) := dB_36_3_30.2.2.1.2
theorem dX11_put_21 : decode cX11_put 21 = .ok (.getfield 91, 3) := dB_36_3_30.2.2.2.1
theorem dX11_put_24 : decode cX11_put 24 = .ok (.ireturn, 1) := dB_36_3_30.2.2.2.2
theorem dB_36_3_31 : ((((decode cX11_put 25 = .ok (.aload_n 0, 1)) ∧ (decode cX11_put 26 = .ok (.getfield 72, 3))) ∧ ((decode cX11_put 29 = .ok (.iload_n 1, 1)) ∧ (decode cX11_put 30 = .ok (.aaload, 1)))) ∧ (((decode cX11_put 31 = .ok (.iload_n 3, 1)) ∧ (decode cX11_put 32 = .ok (.iload 4, 2))) ∧ ((decode cX11_put 34 = .ok (.lload 5, 2)) ∧ (decode cX11_put 36 = .ok (.invokevirtual 263, 3))))) ∧ ((((decode cX11_put 39 = .ok (.iconst 1, 1)) ∧ (decode cX11_put 40 = .ok (.ireturn, 1))) ∧ ((decode cX11_copy 0 = .ok (.aload_n 0, 1)) ∧ (decode cX11_copy 1 = .ok (.iload_n 1, 1)))) ∧ (((decode cX11_copy 2 = .ok (.invokestatic 267, 3)) ∧ (decode cX11_copy 5 = .ok (.ifCond .eq 23, 3))) ∧ ((decode cX11_copy 8 = .ok (.aload_n 0, 1)) ∧ (decode cX11_copy 9 = .ok (.getfield 72, 3))))) := by first | decide +kernel | ((repeat' apply And.intro) <;> decide +kernel)
theorem dX11_put_25 : decode cX11_put 25 = .ok (.aload_n 0, 1) := dB_36_3_31.1.1.1.1
theorem dX11_put_26 : decode cX11_put 26 = .ok (.getfield 72, 3) := dB_36_3_31.1.1.1.2
theorem dX11_put_29 : decode cX11_put 29 = .ok (.iload_n 1, 1) := dB_36_3_31.1.1.2.1
theorem dX11_put_30 : decode cX11_put 30 = .ok (.aaload, 1) := dB_36_3_31.1.1.2.2
theorem dX11_put_31 : decode cX11_put 31 = .ok (.iload_n 3, 1) := dB_36_3_31.1.2.1.1
theorem dX11_put_32 : decode cX11_put 32 = .ok (.iload 4, 2) := dB_36_3_31.1.2.1.2
theorem dX11_put_34 : decode cX11_put 34 = .ok (.lload 5, 2) := dB_36_3_31.1.2.2.1
theorem dX11_put_36 : decode cX11_put 36 = .ok (.invokevirtual 263, 3) := dB_36_3_31.1.2.2.2
theorem dX11_put_39 : decode cX11_put 39 = .ok (.iconst 1, 1) := dB_36_3_31.2.1.1.1
theorem dX11_put_40 : decode cX11_put 40 = .ok (.ireturn, 1) := dB_36_3_31.2.1.1.2
theorem dX11_copy_0 : decode cX11_copy 0 = .ok (.aload_n 0, 1) := dB_36_3_31.2.1.2.1
theorem dX11_copy_1 : decode cX11_copy 1 = .ok (.iload_n 1, 1) := dB_36_3_31.2.1.2.2
theorem dX11_copy_2 : decode cX11_copy 2 = .ok (.invokestatic 267, 3) := dB_36_3_31.2.2.1.1
theorem dX11_copy_5 : decode cX11_copy 5 = .ok (.ifCond .eq 23, 3) := dB_36_3_31.2.2.1.2
theorem dX11_copy_8 : decode cX11_copy 8 = .ok (.aload_n 0, 1) := dB_36_3_31.2.2.2.1
theorem dX11_copy_9 : decode cX11_copy 9 = .ok (.getfield 72, 3) := dB_36_3_31.2.2.2.2
theorem dB_36_3_32 : ((((decode cX11_copy 12 = .ok (.iload_n 1, 1)) ∧ (decode cX11_copy 13 = .ok (.aaload, 1))) ∧ ((decode cX11_copy 14 = .ok (.iload_n 2, 1)) ∧ (decode cX11_copy 15 = .ok (.iload_n 3, 1)))) ∧ (((decode cX11_copy 16 = .ok (.iload 4, 2)) ∧ (decode cX11_copy 18 = .ok (.iload 5, 2))) ∧ ((decode cX11_copy 20 = .ok (.iload 6, 2)) ∧ (decode cX11_copy 22 = .ok (.invokevirtual 270, 3))))) ∧ ((((decode cX11_copy 25 = .ok (.goto 4, 3)) ∧ (decode cX11_copy 28 = .ok (.iconst (-1), 1))) ∧ ((decode cX11_copy 29 = .ok (.putfield 91, 3)) ∧ (decode cX11_copy 32 = .ok (.aload_n 0, 1)))) ∧ (((decode cX11_copy 33 = .ok (.getfield 91, 3)) ∧ (decode cX11_copy 36 = .ok (.ifCond .eq 8, 3))) ∧ ((decode cX11_copy 39 = .ok (.aload_n 0, 1)) ∧ (decode cX11_copy 40 = .ok (.getfield 91, 3))))) := by first | decide +kernel | ((repeat' apply And.intro) <;> decide +kernel)
theorem dX11_copy_12 : decode cX11_copy 12 = .ok (.iload_n 1, 1) := dB_36_3_32.1.1.1.1
theorem dX11_copy_13 : decode cX11_copy 13 = .ok (.aaload, 1) := dB_36_3_32.1.1.1.2
theorem dX11_copy_14 : decode cX11_copy 14 = .ok (.iload_n 2, 1) := dB_36_3_32.1.1.2.1
theorem dX11_copy_15 : decode cX11_copy 15 = .ok (.iload_n 3, 1) := dB_36_3_32.1.1.2.2
theorem dX11_copy_16 : decode cX11_copy 16 = .ok (.iload 4, 2) := dB_36_3_32.1.2.1.1
theorem dX11_copy_18 : decode cX11_copy 18 = .ok (.iload 5, 2) := dB_36_3_32.1.2.1.2
theorem dX11_copy_20 : decode cX11_copy 20 = .ok (.iload 6, 2) := dB_36_3_32.1.2.2.1
theorem dX11_copy_22 : decode cX11_copy 22 = .ok (.invokevirtual 270, 3) := dB_36_3_32.1.2.2.2
theorem dX11_copy_25 : decode cX11_copy 25 = .ok (.goto 4, 3) := dB_36_3_32.2.1.1.1
theorem dX11_copy_28 : decode cX11_copy 28 = .ok (.iconst (-1), 1) := dB_36_3_32.2.1.1.2
theorem dX11_copy_29 : decode cX11_copy 29 = .ok (.putfield 91, 3) := dB_36_3_32.2.1.2.1
theorem dX11_copy_32 : decode cX11_copy 32 = .ok (.aload_n 0, 1) := dB_36_3_32.2.1.2.2
theorem dX11_copy_33 : decode cX11_copy 33 = .ok (.getfield 91, 3) := dB_36_3_32.2.2.1.1
theorem dX11_copy_36 : decode cX11_copy 36 = .ok (.ifCond .eq 8, 3) := dB_36_3_32.2.2.1.2
theorem dX11_copy_39 : decode cX11_copy 39 = .ok (.aload_n 0, 1) := dB_36_3_32.2.2.2.1
theorem dX11_copy_40 : decode cX11_copy 40 = .ok (.getfield 91, 3) := dB_36_3_32.2.2.2.2
theorem dB_36_3_33 : ((((decode cX11_copy 43 = .ok (.ireturn, 1)) ∧ (decode cX11_copy 44 = .ok (.aload_n 0, 1))) ∧ ((decode cX11_copy 45 = .ok (.getfield 72, 3)) ∧ (decode cX11_copy 48 = .ok (.iload_n 1, 1)))) ∧ (((decode cX11_copy 49 = .ok (.aaload, 1)) ∧ (decode cX11_copy 50 = .ok (.iload_n 2, 1))) ∧ ((decode cX11_copy 51 = .ok (.iload_n 3, 1)) ∧ (decode cX11_copy 52 = .ok (.iload 4, 2))))) ∧ ((((decode cX11_copy 54 = .ok (.iload 5, 2)) ∧ (decode cX11_copy 56 = .ok (.iload 6, 2))) ∧ ((decode cX11_copy 58 = .ok (.invokevirtual 273, 3)) ∧ (decode cX11_copy 61 = .ok (.iload 6, 2)))) ∧ (((decode cX11_copy 63 = .ok (.ireturn, 1)) ∧ (decode cX11_item 0 = .ok (.aload_n 0, 1))) ∧ ((decode cX11_item 1 = .ok (.aload_n 0, 1)) ∧ (decode cX11_item 2 = .ok (.iload_n 1, 1))))) := by first | decide +kernel | ((repeat' apply And.intro) <;> decide +kernel)
theorem dX11_copy_43 : decode cX11_copy 43 = .ok (.ireturn, 1) := dB_36_3_33.1.1.1.1
theorem dX11_copy_44 : decode cX11_copy 44 = .ok (.aload_n 0, 1) := dB_36_3_33.1.1.1.2
theorem dX11_copy_45 : decode cX11_copy 45 = .ok (.getfield 72, 3) := dB_36_3_33.1.1.2.1
theorem dX11_copy_48 : decode cX11_copy 48 = .ok (.iload_n 1, 1) := dB_36_3_33.1.1.2.2
theorem dX11_copy_49 : decode cX11_copy 49 = .ok (.aaload, 1) := dB_36_3_33.1.2.1.1
theorem dX11_copy_50 : decode cX11_copy 50 = .ok (.iload_n 2, 1) := dB_36_3_33.1.2.1.2
theorem dX11_copy_51 : decode cX11_copy 51 = .ok (.iload_n 3, 1) := dB_36_3_33.1.2.2.1
theorem dX11_copy_52 : decode cX11_copy 52 = .ok (.iload 4, 2) := dB_36_3_33.1.2.2.2
theorem dX11_copy_54 : decode cX11_copy 54 = .ok (.iload 5, 2) := dB_36_3_33.2.1.1.1
theorem dX11_copy_56 : decode cX11_copy 56 = .ok (.iload 6, 2) := dB_36_3_33.2.1.1.2
theorem dX11_copy_58 : decode cX11_copy 58 = .ok (.invokevirtual 273, 3) := dB_36_3_33.2.1.2.1
theorem dX11_copy_61 : decode cX11_copy 61 = .ok (.iload 6, 2) := dB_36_3_33.2.1.2.2
theorem dX11_copy_63 : decode cX11_copy 63 = .ok (.ireturn, 1) := dB_36_3_33.2.2.1.1
theorem dX11_item_0 : decode cX11_item 0 = .ok (.aload_n 0, 1) := dB_36_3_33.2.2.1.2
theorem dX11_item_1 : decode cX11_item 1 = .ok (.aload_n 0, 1) := dB_36_3_33.2.2.2.1
theorem dX11_item_2 : decode cX11_item 2 = .ok (.iload_n 1, 1) := dB_36_3_33.2.2.2.2
theorem dB_36_3_34 : ((((decode cX11_item 3 = .ok (.iload_n 2, 1)) ∧ (decode cX11_item 4 = .ok (.iload_n 3, 1))) ∧ ((decode cX11_item 5 = .ok (.iload 4, 2)) ∧ (decode cX11_item 7 = .ok (.invokevirtual 260, 3)))) ∧ (((decode cX11_item 10 = .ok (.putfield 91, 3)) ∧ (decode cX11_item 13 = .ok (.aload_n 0, 1))) ∧ ((decode cX11_item 14 = .ok (.getfield 91, 3)) ∧ (decode cX11_item 17 = .ok (.ifCond .eq 5, 3))))) ∧ ((((decode cX11_item 20 = .ok (.lconst 0, 1)) ∧ (decode cX11_item 21 = .ok (.lreturn, 1))) ∧ ((decode cX11_item 22 = .ok (.aload_n 0, 1)) ∧ (decode cX11_item 23 = .ok (.getfield 72, 3)))) ∧ (((decode cX11_item 26 = .ok (.iload_n 1, 1)) ∧ (decode cX11_item 27 = .ok (.aaload, 1))) ∧ ((decode cX11_item 28 = .ok (.iload_n 3, 1)) ∧ (decode cX11_item 29 = .ok (.iload 4, 2))))) := by first | decide +kernel | ((repeat' apply And.intro) <;> decide +kernel)
theorem dX11_item_3 : decode cX11_item 3 = .ok (.iload_n 2, 1) := dB_36_3_34.1.1.1.1
theorem dX11_item_4 : decode cX11_item 4 = .ok (.iload_n 3, 1) := dB_36_3_34.1.1.1.2
theorem dX11_item_5 : decode cX11_item 5 = .ok (.iload 4, 2) := dB_36_3_34.1.1.2.1
theorem dX11_item_7 : decode cX11_item 7 = .ok (.invokevirtual 260, 3) := dB_36_3_34.1.1.2.2
theorem dX11_item_10 : decode cX11_item 10 = .ok (.putfield 91, 3) := dB_36_3_34.1.2.1.1
theorem dX11_item_13 : decode cX11_item 13 = .ok (.aload_n 0, 1) := dB_36_3_34.1.2.1.2
theorem dX11_item_14 : decode cX11_item 14 = .ok (.getfield 91, 3) := dB_36_3_34.1.2.2.1
theorem dX11_item_17 : decode cX11_item 17 = .ok (.ifCond .eq 5, 3) := dB_36_3_34.1.2.2.2
theorem dX11_item_20 : decode cX11_item 20 = .ok (.lconst 0, 1) := dB_36_3_34.2.1.1.1
theorem dX11_item_21 : decode cX11_item 21 = .ok (.lreturn, 1) := dB_36_3_34.2.1.1.2
theorem dX11_item_22 : decode cX11_item 22 = .ok (.aload_n 0, 1) := dB_36_3_34.2.1.2.1
theorem dX11_item_23 : decode cX11_item 23 = .ok (.getfield 72, 3) := dB_36_3_34.2.1.2.2
theorem dX11_item_26 : decode cX11_item 26 = .ok (.iload_n 1, 1) := dB_36_3_34.2.2.1.1
theorem dX11_item_27 : decode cX11_item 27 = .ok (.aaload, 1) := dB_36_3_34.2.2.1.2
theorem dX11_item_28 : decode cX11_item 28 = .ok (.iload_n 3, 1) := dB_36_3_34.2.2.2.1
theorem dX11_item_29 : decode cX11_item 29 = .ok (.iload 4, 2) := dB_36_3_34.2.2.2.2
theorem dB_36_3_35 : ((((decode cX11_item 31 = .ok (.invokevirtual 277, 3)) ∧ (decode cX11_item 34 = .ok (.lreturn, 1))) ∧ ((decode cX11_read 0 = .ok (.iload_n 1, 1)) ∧ (decode cX11_read 1 = .ok (.invokestatic 267, 3)))) ∧ (((decode cX11_read 4 = .ok (.ifCond .ne 10, 3)) ∧ (decode cX11_read 7 = .ok (.aload_n 0, 1))) ∧ ((decode cX11_read 8 = .ok (.iconst (-1), 1)) ∧ (decode cX11_read 9 = .ok (.putfield 91, 3))))) ∧ ((((decode cX11_read 12 = .ok (.iconst (-1), 1)) ∧ (decode cX11_read 13 = .ok (.ireturn, 1))) ∧ ((decode cX11_read 14 = .ok (.aload_n 0, 1)) ∧ (decode cX11_read 15 = .ok (.getfield 72, 3)))) ∧ (((decode cX11_read 18 = .ok (.iload_n 1, 1)) ∧ (decode cX11_read 19 = .ok (.aaload, 1))) ∧ ((decode cX11_read 20 = .ok (.astore_n 2, 1)) ∧ (decode cX11_read 21 = .ok (.aload_n 0, 1))))) := by first | decide +kernel | ((repeat' apply And.intro) <;> decide +kernel)
theorem dX11_item_31 : decode cX11_item 31 = .ok (.invokevirtual 277, 3) := dB_36_3_35.1.1.1.1
theorem dX11_item_34 : decode cX11_item 34 = .ok (.lreturn, 1) := dB_36_3_35.1.1.1.2
theorem dX11_read_0 : decode cX11_read 0 = .ok (.iload_n 1, 1) := dB_36_3_35.1.1.2.1
theorem dX11_read_1 : decode cX11_read 1 = .ok (.invokestatic 267, 3) := dB_36_3_35.1.1.2.2
theorem dX11_read_4 : decode cX11_read 4 = .ok (.ifCond .ne 10, 3) := dB_36_3_35.1.2.1.1
theorem dX11_read_7 : decode cX11_read 7 = .ok (.aload_n 0, 1) := dB_36_3_35.1.2.1.2
theorem dX11_read_8 : decode cX11_read 8 = .ok (.iconst (-1), 1) := dB_36_3_35.1.2.2.1
theorem dX11_read_9 : decode cX11_read 9 = .ok (.putfield 91, 3) := dB_36_3_35.1.2.2.2
theorem dX11_read_12 : decode cX11_read 12 = .ok (.iconst (-1), 1) := dB_36_3_35.2.1.1.1
theorem dX11_read_13 : decode cX11_read 13 = .ok (.ireturn, 1) := dB_36_3_35.2.1.1.2
theorem dX11_read_14 : decode cX11_read 14 = .ok (.aload_n 0, 1) := dB_36_3_35.2.1.2.1
theorem dX11_read_15 : decode cX11_read 15 = .ok (.getfield 72, 3) := dB_36_3_35.2.1.2.2
theorem dX11_read_18 : decode cX11_read 18 = .ok (.iload_n 1, 1) := dB_36_3_35.2.2.1.1
theorem dX11_read_19 : decode cX11_read 19 = .ok (.aaload, 1) := dB_36_3_35.2.2.1.2
theorem dX11_read_20 : decode cX11_read 20 = .ok (.astore_n 2, 1) := dB_36_3_35.2.2.2.1
theorem dX11_read_21 : decode cX11_read 21 = .ok (.aload_n 0, 1) := dB_36_3_35.2.2.2.2
theorem dB_36_3_36 : ((((decode cX11_read 22 = .ok (.aload_n 2, 1)) ∧ (decode cX11_read 23 = .ok (.invokevirtual 281, 3))) ∧ ((decode cX11_read 26 = .ok (.ifCond .eq 7, 3)) ∧ (decode cX11_read 29 = .ok (.iconst 0, 1)))) ∧ (((decode cX11_read 30 = .ok (.goto 5, 3)) ∧ (decode cX11_read 33 = .ok (.bipush (-11), 2))) ∧ ((decode cX11_read 35 = .ok (.putfield 91, 3)) ∧ (decode cX11_read 38 = .ok (.iconst 0, 1))))) ∧ ((((decode cX11_read 39 = .ok (.istore_n 3, 1)) ∧ (decode cX11_read 40 = .ok (.iconst 0, 1))) ∧ ((decode cX11_read 41 = .ok (.istore 4, 2)) ∧ (decode cX11_read 43 = .ok (.iload 4, 2)))) ∧ (((decode cX11_read 45 = .ok (.aload_n 2, 1)) ∧ (decode cX11_read 46 = .ok (.getfield 284, 3))) ∧ ((decode cX11_read 49 = .ok (.if_icmp .ge 85, 3)) ∧ (decode cX11_read 52 = .ok (.aload_n 0, 1))))) := by first | decide +kernel | ((repeat' apply And.intro) <;> decide +kernel)
theorem dX11_read_22 : decode cX11_read 22 = .ok (.aload_n 2, 1) := dB_36_3_36.1.1.1.1
theorem dX11_read_23 : decode cX11_read 23 = .ok (.invokevirtual 281, 3) := dB_36_3_36.1.1.1.2
theorem dX11_read_26 : decode cX11_read 26 = .ok (.ifCond .eq 7, 3) := dB_36_3_36.1.1.2.1
theorem dX11_read_29 : decode cX11_read 29 = .ok (.iconst 0, 1) := dB_36_3_36.1.1.2.2
theorem dX11_read_30 : decode cX11_read 30 = .ok (.goto 5, 3) := dB_36_3_36.1.2.1.1
theorem dX11_read_33 : decode cX11_read 33 = .ok (.bipush (-11), 2) := dB_36_3_36.1.2.1.2
theorem dX11_read_35 : decode cX11_read 35 = .ok (.putfield 91, 3) := dB_36_3_36.1.2.2.1
theorem dX11_read_38 : decode cX11_read 38 = .ok (.iconst 0, 1) := dB_36_3_36.1.2.2.2
theorem dX11_read_39 : decode cX11_read 39 = .ok (.istore_n 3, 1) := dB_36_3_36.2.1.1.1
theorem dX11_read_40 : decode cX11_read 40 = .ok (.iconst 0, 1) := dB_36_3_36.2.1.1.2
theorem dX11_read_41 : decode cX11_read 41 = .ok (.istore 4, 2) := dB_36_3_36.2.1.2.1
theorem dX11_read_43 : decode cX11_read 43 = .ok (.iload 4, 2) := dB_36_3_36.2.1.2.2
theorem dX11_read_45 : decode cX11_read 45 = .ok (.aload_n 2, 1) := dB_36_3_36.2.2.1.1
theorem dX11_read_46 : decode cX11_read 46 = .ok (.getfield 284, 3) := dB_36_3_36.2.2.1.2
theorem dX11_read_49 : decode cX11_read 49 = .ok (.if_icmp .ge 85, 3) := dB_36_3_36.2.2.2.1
theorem dX11_read_52 : decode cX11_read 52 = .ok (.aload_n 0, 1) := dB_36_3_36.2.2.2.2
theorem dB_36_3_37 : ((((decode cX11_read 53 = .ok (.getfield 91, 3)) ∧ (decode cX11_read 56 = .ok (.ifCond .ne 78, 3))) ∧ ((decode cX11_read 59 = .ok (.aload_n 0, 1)) ∧ (decode cX11_read 60 = .ok (.aload_n 0, 1)))) ∧ (((decode cX11_read 61 = .ok (.aload_n 2, 1)) ∧ (decode cX11_read 62 = .ok (.iload 4, 2))) ∧ ((decode cX11_read 64 = .ok (.invokevirtual 287, 3)) ∧ (decode cX11_read 67 = .ok (.putfield 91, 3))))) ∧ ((((decode cX11_read 70 = .ok (.aload_n 0, 1)) ∧ (decode cX11_read 71 = .ok (.getfield 91, 3))) ∧ ((decode cX11_read 74 = .ok (.ifCond .ne 54, 3)) ∧ (decode cX11_read 77 = .ok (.iload_n 3, 1)))) ∧ (((decode cX11_read 78 = .ok (.ifCond .ne 7, 3)) ∧ (decode cX11_read 81 = .ok (.aload_n 0, 1))) ∧ ((decode cX11_read 82 = .ok (.invokevirtual 97, 3)) ∧ (decode cX11_read 85 = .ok (.aload_n 0, 1))))) := by first | decide +kernel | ((repeat' apply And.intro) <;> decide +kernel)
theorem dX11_read_53 : decode cX11_read 53 = .ok (.getfield 91, 3) := dB_36_3_37.1.1.1.1
theorem dX11_read_56 : decode cX11_read 56 = .ok (.ifCond .ne 78, 3) := dB_36_3_37.1.1.1.2
theorem dX11_read_59 : decode cX11_read 59 = .ok (.aload_n 0, 1) := dB_36_3_37.1.1.2.1
theorem dX11_read_60 : decode cX11_read 60 = .ok (.aload_n 0, 1) := dB_36_3_37.1.1.2.2
theorem dX11_read_61 : decode cX11_read 61 = .ok (.aload_n 2, 1) := dB_36_3_37.1.2.1.1
theorem dX11_read_62 : decode cX11_read 62 = .ok (.iload 4, 2) := dB_36_3_37.1.2.1.2
theorem dX11_read_64 : decode cX11_read 64 = .ok (.invokevirtual 287, 3) := dB_36_3_37.1.2.2.1
theorem dX11_read_67 : decode cX11_read 67 = .ok (.putfield 91, 3) := dB_36_3_37.1.2.2.2
theorem dX11_read_70 : decode cX11_read 70 = .ok (.aload_n 0, 1) := dB_36_3_37.2.1.1.1
theorem dX11_read_71 : decode cX11_read 71 = .ok (.getfield 91, 3) := dB_36_3_37.2.1.1.2
theorem dX11_read_74 : decode cX11_read 74 = .ok (.ifCond .ne 54, 3) := dB_36_3_37.2.1.2.1
theorem dX11_read_77 : decode cX11_read 77 = .ok (.iload_n 3, 1) := dB_36_3_37.2.1.2.2
theorem dX11_read_78 : decode cX11_read 78 = .ok (.ifCond .ne 7, 3) := dB_36_3_37.2.2.1.1
theorem dX11_read_81 : decode cX11_read 81 = .ok (.aload_n 0, 1) := dB_36_3_37.2.2.1.2
theorem dX11_read_82 : decode cX11_read 82 = .ok (.invokevirtual 97, 3) := dB_36_3_37.2.2.2.1
theorem dX11_read_85 : decode cX11_read 85 = .ok (.aload_n 0, 1) := dB_36_3_37.2.2.2.2
theorem dB_36_3_38 : ((((decode cX11_read 86 = .ok (.aload_n 2, 1)) ∧ (decode cX11_read 87 = .ok (.iload 4, 2))) ∧ ((decode cX11_read 89 = .ok (.iconst 0, 1)) ∧ (decode cX11_read 90 = .ok (.invokevirtual 291, 3)))) ∧ (((decode cX11_read 93 = .ok (.aload_n 2, 1)) ∧ (decode cX11_read 94 = .ok (.iload 4, 2))) ∧ ((decode cX11_read 96 = .ok (.iconst 1, 1)) ∧ (decode cX11_read 97 = .ok (.invokevirtual 291, 3))))) ∧ ((((decode cX11_read 100 = .ok (.aload_n 2, 1)) ∧ (decode cX11_read 101 = .ok (.iload 4, 2))) ∧ ((decode cX11_read 103 = .ok (.iconst 2, 1)) ∧ (decode cX11_read 104 = .ok (.invokevirtual 291, 3)))) ∧ (((decode cX11_read 107 = .ok (.aload_n 2, 1)) ∧ (decode cX11_read 108 = .ok (.iload 4, 2))) ∧ ((decode cX11_read 110 = .ok (.iconst 3, 1)) ∧ (decode cX11_read 111 = .ok (.invokevirtual 291, 3))))) := by first | decide +kernel | ((repeat' apply And.intro) <;> decide +kernel)
theorem dX11_read_86 : decode cX11_read 86 = .ok (.aload_n 2, 1) := dB_36_3_38.1.1.1.1
theorem dX11_read_87 : decode cX11_read 87 = .ok (.iload 4, 2) := dB_36_3_38.1.1.1.2
theorem dX11_read_89 : decode cX11_read 89 = .ok (.iconst 0, 1) := dB_36_3_38.1.1.2.1
theorem dX11_read_90 : decode cX11_read 90 = .ok (.invokevirtual 291, 3) := dB_36_3_38.1.1.2.2
theorem dX11_read_93 : decode cX11_read 93 = .ok (.aload_n 2, 1) := dB_36_3_38.1.2.1.1
theorem dX11_read_94 : decode cX11_read 94 = .ok (.iload 4, 2) := dB_36_3_38.1.2.1.2
theorem dX11_read_96 : decode cX11_read 96 = .ok (.iconst 1, 1) := dB_36_3_38.1.2.2.1
theorem dX11_read_97 : decode cX11_read 97 = .ok (.invokevirtual 291, 3) := dB_36_3_38.1.2.2.2
theorem dX11_read_100 : decode cX11_read 100 = .ok (.aload_n 2, 1) := dB_36_3_38.2.1.1.1
theorem dX11_read_101 : decode cX11_read 101 = .ok (.iload 4, 2) := dB_36_3_38.2.1.1.2
theorem dX11_read_103 : decode cX11_read 103 = .ok (.iconst 2, 1) := dB_36_3_38.2.1.2.1
theorem dX11_read_104 : decode cX11_read 104 = .ok (.invokevirtual 291, 3) := dB_36_3_38.2.1.2.2
theorem dX11_read_107 : decode cX11_read 107 = .ok (.aload_n 2, 1) := dB_36_3_38.2.2.1.1
theorem dX11_read_108 : decode cX11_read 108 = .ok (.iload 4, 2) := dB_36_3_38.2.2.1.2
theorem dX11_read_110 : decode cX11_read 110 = .ok (.iconst 3, 1) := dB_36_3_38.2.2.2.1
theorem dX11_read_111 : decode cX11_read 111 = .ok (.invokevirtual 291, 3) := dB_36_3_38.2.2.2.2
theorem dB_36_3_39 : ((((decode cX11_read 114 = .ok (.aload_n 2, 1)) ∧ (decode cX11_read 115 = .ok (.iload 4, 2))) ∧ ((decode cX11_read 117 = .ok (.iconst 4, 1)) ∧ (decode cX11_read 118 = .ok (.invokevirtual 291, 3)))) ∧ (((decode cX11_read 121 = .ok (.invokevirtual 108, 3)) ∧ (decode cX11_read 124 = .ok (.pop, 1))) ∧ ((decode cX11_read 125 = .ok (.iinc 3 1, 3)) ∧ (decode cX11_read 128 = .ok (.iinc 4 1, 3))))) ∧ ((((decode cX11_read 131 = .ok (.goto (-88), 3)) ∧ (decode cX11_read 134 = .ok (.iload_n 3, 1))) ∧ ((decode cX11_read 135 = .ok (.ireturn, 1)) ∧ (decode cX11_about 0 = .ok (.iload_n 1, 1)))) ∧ (((decode cX11_about 1 = .ok (.tableswitch 80 0 4 #[35, 43, 51, 59, 64], 35)) ∧ (decode cX11_about 36 = .ok (.aload_n 0, 1))) ∧ ((decode cX11_about 37 = .ok (.getfield 31, 3)) ∧ (decode cX11_about 40 = .ok (.getfield 94, 3))))) := by first | decide +kernel | ((repeat' apply And.intro) <;> decide +kernel)
theorem dX11_read_114 : decode cX11_read 114 = .ok (.aload_n 2, 1) := dB_36_3_39.1.1.1.1
theorem dX11_read_115 : decode cX11_read 115 = .ok (.iload 4, 2) := dB_36_3_39.1.1.1.2
theorem dX11_read_117 : decode cX11_read 117 = .ok (.iconst 4, 1) := dB_36_3_39.1.1.2.1
theorem dX11_read_118 : decode cX11_read 118 = .ok (.invokevirtual 291, 3) := dB_36_3_39.1.1.2.2
theorem dX11_read_121 : decode cX11_read 121 = .ok (.invokevirtual 108, 3) := dB_36_3_39.1.2.1.1
theorem dX11_read_124 : decode cX11_read 124 = .ok (.pop, 1) := dB_36_3_39.1.2.1.2
theorem dX11_read_125 : decode cX11_read 125 = .ok (.iinc 3 1, 3) := dB_36_3_39.1.2.2.1
theorem dX11_read_128 : decode cX11_read 128 = .ok (.iinc 4 1, 3) := dB_36_3_39.1.2.2.2
theorem dX11_read_131 : decode cX11_read 131 = .ok (.goto (-88), 3) := dB_36_3_39.2.1.1.1
theorem dX11_read_134 : decode cX11_read 134 = .ok (.iload_n 3, 1) := dB_36_3_39.2.1.1.2
theorem dX11_read_135 : decode cX11_read 135 = .ok (.ireturn, 1) := dB_36_3_39.2.1.2.1
theorem dX11_about_0 : decode cX11_about 0 = .ok (.iload_n 1, 1) := dB_36_3_39.2.1.2.2
theorem dX11_about_1 : decode cX11_about 1 = .ok (.tableswitch 80 0 4 #[35, 43, 51, 59, 64], 35) := dB_36_3_39.2.2.1.1
theorem dX11_about_36 : decode cX11_about 36 = .ok (.aload_n 0, 1) := dB_36_3_39.2.2.1.2
theorem dX11_about_37 : decode cX11_about 37 = .ok (.getfield 31, 3) := dB_36_3_39.2.2.2.1
theorem dX11_about_40 : decode cX11_about 40 = .ok (.getfield 94, 3) := dB_36_3_39.2.2.2.2
theorem dB_36_3_40 : ((((decode cX11_about 43 = .ok (.ireturn, 1)) ∧ (decode cX11_about 44 = .ok (.aload_n 0, 1))) ∧ ((decode cX11_about 45 = .ok (.getfield 31, 3)) ∧ (decode cX11_about 48 = .ok (.getfield 294, 3)))) ∧ (((decode cX11_about 51 = .ok (.ireturn, 1)) ∧ (decode cX11_about 52 = .ok (.aload_n 0, 1))) ∧ ((decode cX11_about 53 = .ok (.getfield 31, 3)) ∧ (decode cX11_about 56 = .ok (.invokevirtual 297, 3))))) ∧ ((((decode cX11_about 59 = .ok (.ireturn, 1)) ∧ (decode cX11_about 60 = .ok (.aload_n 0, 1))) ∧ ((decode cX11_about 61 = .ok (.getfield 84, 3)) ∧ (decode cX11_about 64 = .ok (.ireturn, 1)))) ∧ (((decode cX11_about 65 = .ok (.aload_n 0, 1)) ∧ (decode cX11_about 66 = .ok (.getfield 31, 3))) ∧ ((decode cX11_about 69 = .ok (.invokevirtual 204, 3)) ∧ (decode cX11_about 72 = .ok (.ifCond .eq 7, 3))))) := by first | decide +kernel | ((repeat' apply And.intro) <;> decide +kernel)
theorem dX11_about_43 : decode cX11_about 43 = .ok (.ireturn, 1) := dB_36_3_40.1.1.1.1
theorem dX11_about_44 : decode cX11_about 44 = .ok (.aload_n 0, 1) := dB_36_3_40.1.1.1.2
theorem dX11_about_45 : decode cX11_about 45 = .ok (.getfield 31, 3) := dB_36_3_40.1.1.2.1
theorem dX11_about_48 : decode cX11_about 48 = .ok (.getfield 294, 3) := dB_36_3_40.1.1.2.2
theorem dX11_about_51 : decode cX11_about 51 = .ok (.ireturn, 1) := dB_36_3_40.1.2.1.1
theorem dX11_about_52 : decode cX11_about 52 = .ok (.aload_n 0, 1) := dB_36_3_40.1.2.1.2
theorem dX11_about_53 : decode cX11_about 53 = .ok (.getfield 31, 3) := dB_36_3_40.1.2.2.1
theorem dX11_about_56 : decode cX11_about 56 = .ok (.invokevirtual 297, 3) := dB_36_3_40.1.2.2.2
theorem dX11_about_59 : decode cX11_about 59 = .ok (.ireturn, 1) := dB_36_3_40.2.1.1.1
theorem dX11_about_60 : decode cX11_about 60 = .ok (.aload_n 0, 1) := dB_36_3_40.2.1.1.2
theorem dX11_about_61 : decode cX11_about 61 = .ok (.getfield 84, 3) := dB_36_3_40.2.1.2.1
theorem dX11_about_64 : decode cX11_about 64 = .ok (.ireturn, 1) := dB_36_3_40.2.1.2.2
theorem dX11_about_65 : decode cX11_about 65 = .ok (.aload_n 0, 1) := dB_36_3_40.2.2.1.1
theorem dX11_about_66 : decode cX11_about 66 = .ok (.getfield 31, 3) := dB_36_3_40.2.2.1.2
theorem dX11_about_69 : decode cX11_about 69 = .ok (.invokevirtual 204, 3) := dB_36_3_40.2.2.2.1
theorem dX11_about_72 : decode cX11_about 72 = .ok (.ifCond .eq 7, 3) := dB_36_3_40.2.2.2.2
theorem dB_36_3_41 : ((((decode cX11_about 75 = .ok (.iconst 1, 1)) ∧ (decode cX11_about 76 = .ok (.goto 4, 3))) ∧ ((decode cX11_about 79 = .ok (.iconst 0, 1)) ∧ (decode cX11_about 80 = .ok (.ireturn, 1)))) ∧ (((decode cX11_about 81 = .ok (.iconst (-1), 1)) ∧ (decode cX11_about 82 = .ok (.ireturn, 1))) ∧ ((decode cX11_trace 0 = .ok (.aload_n 0, 1)) ∧ (decode cX11_trace 1 = .ok (.getfield 87, 3))))) ∧ ((((decode cX11_trace 4 = .ok (.lreturn, 1)) ∧ (decode cX11_status 0 = .ok (.aload_n 0, 1))) ∧ ((decode cX11_status 1 = .ok (.getfield 91, 3)) ∧ (decode cX11_status 4 = .ok (.ireturn, 1)))) ∧ (((decode cX11_remember 0 = .ok (.aload_n 0, 1)) ∧ (decode cX11_remember 1 = .ok (.getfield 80, 3))) ∧ ((decode cX11_remember 4 = .ok (.aload_n 0, 1)) ∧ (decode cX11_remember 5 = .ok (.getfield 84, 3))))) := by first | decide +kernel | ((repeat' apply And.intro) <;> decide +kernel)
theorem dX11_about_75 : decode cX11_about 75 = .ok (.iconst 1, 1) := dB_36_3_41.1.1.1.1
theorem dX11_about_76 : decode cX11_about 76 = .ok (.goto 4, 3) := dB_36_3_41.1.1.1.2
theorem dX11_about_79 : decode cX11_about 79 = .ok (.iconst 0, 1) := dB_36_3_41.1.1.2.1
theorem dX11_about_80 : decode cX11_about 80 = .ok (.ireturn, 1) := dB_36_3_41.1.1.2.2
theorem dX11_about_81 : decode cX11_about 81 = .ok (.iconst (-1), 1) := dB_36_3_41.1.2.1.1
theorem dX11_about_82 : decode cX11_about 82 = .ok (.ireturn, 1) := dB_36_3_41.1.2.1.2
theorem dX11_trace_0 : decode cX11_trace 0 = .ok (.aload_n 0, 1) := dB_36_3_41.1.2.2.1
theorem dX11_trace_1 : decode cX11_trace 1 = .ok (.getfield 87, 3) := dB_36_3_41.1.2.2.2
theorem dX11_trace_4 : decode cX11_trace 4 = .ok (.lreturn, 1) := dB_36_3_41.2.1.1.1
theorem dX11_status_0 : decode cX11_status 0 = .ok (.aload_n 0, 1) := dB_36_3_41.2.1.1.2
theorem dX11_status_1 : decode cX11_status 1 = .ok (.getfield 91, 3) := dB_36_3_41.2.1.2.1
theorem dX11_status_4 : decode cX11_status 4 = .ok (.ireturn, 1) := dB_36_3_41.2.1.2.2
theorem dX11_remember_0 : decode cX11_remember 0 = .ok (.aload_n 0, 1) := dB_36_3_41.2.2.1.1
theorem dX11_remember_1 : decode cX11_remember 1 = .ok (.getfield 80, 3) := dB_36_3_41.2.2.1.2
theorem dX11_remember_4 : decode cX11_remember 4 = .ok (.aload_n 0, 1) := dB_36_3_41.2.2.2.1
theorem dX11_remember_5 : decode cX11_remember 5 = .ok (.getfield 84, 3) := dB_36_3_41.2.2.2.2
theorem dB_36_3_42 : ((((decode cX11_remember 8 = .ok (.iadd, 1)) ∧ (decode cX11_remember 9 = .ok (.bipush 30, 2))) ∧ ((decode cX11_remember 11 = .ok (.irem, 1)) ∧ (decode cX11_remember 12 = .ok (.istore_n 1, 1)))) ∧ (((decode cX11_remember 13 = .ok (.aload_n 0, 1)) ∧ (decode cX11_remember 14 = .ok (.getfield 84, 3))) ∧ ((decode cX11_remember 17 = .ok (.bipush 30, 2)) ∧ (decode cX11_remember 19 = .ok (.if_icmp .ge 16, 3))))) ∧ ((((decode cX11_remember 22 = .ok (.aload_n 0, 1)) ∧ (decode cX11_remember 23 = .ok (.dup, 1))) ∧ ((decode cX11_remember 24 = .ok (.getfield 84, 3)) ∧ (decode cX11_remember 27 = .ok (.iconst 1, 1)))) ∧ (((decode cX11_remember 28 = .ok (.iadd, 1)) ∧ (decode cX11_remember 29 = .ok (.putfield 84, 3))) ∧ ((decode cX11_remember 32 = .ok (.goto 16, 3)) ∧ (decode cX11_remember 35 = .ok (.aload_n 0, 1))))) := by first | decide +kernel | ((repeat' apply And.intro) <;> decide +kernel)
theorem dX11_remember_8 : decode cX11_remember 8 = .ok (.iadd, 1) := dB_36_3_42.1.1.1.1
theorem dX11_remember_9 : decode cX11_remember 9 = .ok (.bipush 30, 2) := dB_36_3_42.1.1.1.2
theorem dX11_remember_11 : decode cX11_remember 11 = .ok (.irem, 1) := dB_36_3_42.1.1.2.1
theorem dX11_remember_12 : decode cX11_remember 12 = .ok (.istore_n 1, 1) := dB_36_3_42.1.1.2.2
theorem dX11_remember_13 : decode cX11_remember 13 = .ok (.aload_n 0, 1) := dB_36_3_42.1.2.1.1
theorem dX11_remember_14 : decode cX11_remember 14 = .ok (.getfield 84, 3) := dB_36_3_42.1.2.1.2
theorem dX11_remember_17 : decode cX11_remember 17 = .ok (.bipush 30, 2) := dB_36_3_42.1.2.2.1
theorem dX11_remember_19 : decode cX11_remember 19 = .ok (.if_icmp .ge 16, 3) := dB_36_3_42.1.2.2.2
theorem dX11_remember_22 : decode cX11_remember 22 = .ok (.aload_n 0, 1) := dB_36_3_42.2.1.1.1
theorem dX11_remember_23 : decode cX11_remember 23 = .ok (.dup, 1) := dB_36_3_42.2.1.1.2
theorem dX11_remember_24 : decode cX11_remember 24 = .ok (.getfield 84, 3) := dB_36_3_42.2.1.2.1
theorem dX11_remember_27 : decode cX11_remember 27 = .ok (.iconst 1, 1) := dB_36_3_42.2.1.2.2
theorem dX11_remember_28 : decode cX11_remember 28 = .ok (.iadd, 1) := dB_36_3_42.2.2.1.1
theorem dX11_remember_29 : decode cX11_remember 29 = .ok (.putfield 84, 3) := dB_36_3_42.2.2.1.2
theorem dX11_remember_32 : decode cX11_remember 32 = .ok (.goto 16, 3) := dB_36_3_42.2.2.2.1
theorem dX11_remember_35 : decode cX11_remember 35 = .ok (.aload_n 0, 1) := dB_36_3_42.2.2.2.2
theorem dB_36_3_43 : ((((decode cX11_remember 36 = .ok (.aload_n 0, 1)) ∧ (decode cX11_remember 37 = .ok (.getfield 80, 3))) ∧ ((decode cX11_remember 40 = .ok (.iconst 1, 1)) ∧ (decode cX11_remember 41 = .ok (.iadd, 1)))) ∧ (((decode cX11_remember 42 = .ok (.bipush 30, 2)) ∧ (decode cX11_remember 44 = .ok (.irem, 1))) ∧ ((decode cX11_remember 45 = .ok (.putfield 80, 3)) ∧ (decode cX11_remember 48 = .ok (.aload_n 0, 1))))) ∧ ((((decode cX11_remember 49 = .ok (.getfield 76, 3)) ∧ (decode cX11_remember 52 = .ok (.iload_n 1, 1))) ∧ ((decode cX11_remember 53 = .ok (.aaload, 1)) ∧ (decode cX11_remember 54 = .ok (.ifnonnull 16, 3)))) ∧ (((decode cX11_remember 57 = .ok (.aload_n 0, 1)) ∧ (decode cX11_remember 58 = .ok (.getfield 76, 3))) ∧ ((decode cX11_remember 61 = .ok (.iload_n 1, 1)) ∧ (decode cX11_remember 62 = .ok (.new 28, 3))))) := by first | decide +kernel | ((repeat' apply And.intro) <;> decide +kernel)
theorem dX11_remember_36 : decode cX11_remember 36 = .ok (.aload_n 0, 1) := dB_36_3_43.1.1.1.1
theorem dX11_remember_37 : decode cX11_remember 37 = .ok (.getfield 80, 3) := dB_36_3_43.1.1.1.2
theorem dX11_remember_40 : decode cX11_remember 40 = .ok (.iconst 1, 1) := dB_36_3_43.1.1.2.1
theorem dX11_remember_41 : decode cX11_remember 41 = .ok (.iadd, 1) := dB_36_3_43.1.1.2.2
theorem dX11_remember_42 : decode cX11_remember 42 = .ok (.bipush 30, 2) := dB_36_3_43.1.2.1.1
theorem dX11_remember_44 : decode cX11_remember 44 = .ok (.irem, 1) := dB_36_3_43.1.2.1.2
theorem dX11_remember_45 : decode cX11_remember 45 = .ok (.putfield 80, 3) := dB_36_3_43.1.2.2.1
theorem dX11_remember_48 : decode cX11_remember 48 = .ok (.aload_n 0, 1) := dB_36_3_43.1.2.2.2
theorem dX11_remember_49 : decode cX11_remember 49 = .ok (.getfield 76, 3) := dB_36_3_43.2.1.1.1
theorem dX11_remember_52 : decode cX11_remember 52 = .ok (.iload_n 1, 1) := dB_36_3_43.2.1.1.2
theorem dX11_remember_53 : decode cX11_remember 53 = .ok (.aaload, 1) := dB_36_3_43.2.1.2.1
theorem dX11_remember_54 : decode cX11_remember 54 = .ok (.ifnonnull 16, 3) := dB_36_3_43.2.1.2.2
theorem dX11_remember_57 : decode cX11_remember 57 = .ok (.aload_n 0, 1) := dB_36_3_43.2.2.1.1
theorem dX11_remember_58 : decode cX11_remember 58 = .ok (.getfield 76, 3) := dB_36_3_43.2.2.1.2
theorem dX11_remember_61 : decode cX11_remember 61 = .ok (.iload_n 1, 1) := dB_36_3_43.2.2.2.1
theorem dX11_remember_62 : decode cX11_remember 62 = .ok (.new 28, 3) := dB_36_3_43.2.2.2.2
theorem dB_36_3_44 : ((((decode cX11_remember 65 = .ok (.dup, 1)) ∧ (decode cX11_remember 66 = .ok (.invokespecial 30, 3))) ∧ ((decode cX11_remember 69 = .ok (.aastore, 1)) ∧ (decode cX11_remember 70 = .ok (.aload_n 0, 1)))) ∧ (((decode cX11_remember 71 = .ok (.getfield 76, 3)) ∧ (decode cX11_remember 74 = .ok (.iload_n 1, 1))) ∧ ((decode cX11_remember 75 = .ok (.aaload, 1)) ∧ (decode cX11_remember 76 = .ok (.aload_n 0, 1))))) ∧ ((((decode cX11_remember 77 = .ok (.getfield 31, 3)) ∧ (decode cX11_remember 80 = .ok (.invokevirtual 151, 3))) ∧ ((decode cX11_remember 83 = .ok (.return_, 1)) ∧ (decode cX11_lineRefusal 0 = .ok (.lload_n 1, 1)))) ∧ (((decode cX11_lineRefusal 1 = .ok (.lconst 0, 1)) ∧ (decode cX11_lineRefusal 2 = .ok (.lcmp, 1))) ∧ ((decode cX11_lineRefusal 3 = .ok (.ifCond .lt 24, 3)) ∧ (decode cX11_lineRefusal 6 = .ok (.lload_n 1, 1))))) := by first | decide +kernel | ((repeat' apply And.intro) <;> decide +kernel)
theorem dX11_remember_65 : decode cX11_remember 65 = .ok (.dup, 1) := dB_36_3_44.1.1.1.1
theorem dX11_remember_66 : decode cX11_remember 66 = .ok (.invokespecial 30, 3) := dB_36_3_44.1.1.1.2
theorem dX11_remember_69 : decode cX11_remember 69 = .ok (.aastore, 1) := dB_36_3_44.1.1.2.1
theorem dX11_remember_70 : decode cX11_remember 70 = .ok (.aload_n 0, 1) := dB_36_3_44.1.1.2.2
theorem dX11_remember_71 : decode cX11_remember 71 = .ok (.getfield 76, 3) := dB_36_3_44.1.2.1.1
theorem dX11_remember_74 : decode cX11_remember 74 = .ok (.iload_n 1, 1) := dB_36_3_44.1.2.1.2
theorem dX11_remember_75 : decode cX11_remember 75 = .ok (.aaload, 1) := dB_36_3_44.1.2.2.1
theorem dX11_remember_76 : decode cX11_remember 76 = .ok (.aload_n 0, 1) := dB_36_3_44.1.2.2.2
theorem dX11_remember_77 : decode cX11_remember 77 = .ok (.getfield 31, 3) := dB_36_3_44.2.1.1.1
theorem dX11_remember_80 : decode cX11_remember 80 = .ok (.invokevirtual 151, 3) := dB_36_3_44.2.1.1.2
theorem dX11_remember_83 : decode cX11_remember 83 = .ok (.return_, 1) := dB_36_3_44.2.1.2.1
theorem dX11_lineRefusal_0 : decode cX11_lineRefusal 0 = .ok (.lload_n 1, 1) := dB_36_3_44.2.1.2.2
theorem dX11_lineRefusal_1 : decode cX11_lineRefusal 1 = .ok (.lconst 0, 1) := dB_36_3_44.2.2.1.1
theorem dX11_lineRefusal_2 : decode cX11_lineRefusal 2 = .ok (.lcmp, 1) := dB_36_3_44.2.2.1.2
theorem dX11_lineRefusal_3 : decode cX11_lineRefusal 3 = .ok (.ifCond .lt 24, 3) := dB_36_3_44.2.2.2.1
theorem dX11_lineRefusal_6 : decode cX11_lineRefusal 6 = .ok (.lload_n 1, 1) := dB_36_3_44.2.2.2.2
theorem dB_36_3_45 : ((((decode cX11_lineRefusal 7 = .ok (.ldc2_w 300, 3)) ∧ (decode cX11_lineRefusal 10 = .ok (.lcmp, 1))) ∧ ((decode cX11_lineRefusal 11 = .ok (.ifCond .ge 16, 3)) ∧ (decode cX11_lineRefusal 14 = .ok (.aload_n 0, 1)))) ∧ (((decode cX11_lineRefusal 15 = .ok (.getfield 31, 3)) ∧ (decode cX11_lineRefusal 18 = .ok (.lload_n 3, 1))) ∧ ((decode cX11_lineRefusal 19 = .ok (.lload 5, 2)) ∧ (decode cX11_lineRefusal 21 = .ok (.invokevirtual 135, 3))))) ∧ ((((decode cX11_lineRefusal 24 = .ok (.ifCond .ne 5, 3)) ∧ (decode cX11_lineRefusal 27 = .ok (.iconst (-1), 1))) ∧ ((decode cX11_lineRefusal 28 = .ok (.ireturn, 1)) ∧ (decode cX11_lineRefusal 29 = .ok (.lload 7, 2)))) ∧ (((decode cX11_lineRefusal 31 = .ok (.lconst 0, 1)) ∧ (decode cX11_lineRefusal 32 = .ok (.lcmp, 1))) ∧ ((decode cX11_lineRefusal 33 = .ok (.ifCond .lt 28, 3)) ∧ (decode cX11_lineRefusal 36 = .ok (.lload 7, 2))))) := by first | decide +kernel | ((repeat' apply And.intro) <;> decide +kernel)
theorem dX11_lineRefusal_7 : decode cX11_lineRefusal 7 = .ok (.ldc2_w 300, 3) := dB_36_3_45.1.1.1.1
theorem dX11_lineRefusal_10 : decode cX11_lineRefusal 10 = .ok (.lcmp, 1) := dB_36_3_45.1.1.1.2
theorem dX11_lineRefusal_11 : decode cX11_lineRefusal 11 = .ok (.ifCond .ge 16, 3) := dB_36_3_45.1.1.2.1
theorem dX11_lineRefusal_14 : decode cX11_lineRefusal 14 = .ok (.aload_n 0, 1) := dB_36_3_45.1.1.2.2
theorem dX11_lineRefusal_15 : decode cX11_lineRefusal 15 = .ok (.getfield 31, 3) := dB_36_3_45.1.2.1.1
theorem dX11_lineRefusal_18 : decode cX11_lineRefusal 18 = .ok (.lload_n 3, 1) := dB_36_3_45.1.2.1.2
theorem dX11_lineRefusal_19 : decode cX11_lineRefusal 19 = .ok (.lload 5, 2) := dB_36_3_45.1.2.2.1
theorem dX11_lineRefusal_21 : decode cX11_lineRefusal 21 = .ok (.invokevirtual 135, 3) := dB_36_3_45.1.2.2.2
theorem dX11_lineRefusal_24 : decode cX11_lineRefusal 24 = .ok (.ifCond .ne 5, 3) := dB_36_3_45.2.1.1.1
theorem dX11_lineRefusal_27 : decode cX11_lineRefusal 27 = .ok (.iconst (-1), 1) := dB_36_3_45.2.1.1.2
theorem dX11_lineRefusal_28 : decode cX11_lineRefusal 28 = .ok (.ireturn, 1) := dB_36_3_45.2.1.2.1
theorem dX11_lineRefusal_29 : decode cX11_lineRefusal 29 = .ok (.lload 7, 2) := dB_36_3_45.2.1.2.2
theorem dX11_lineRefusal_31 : decode cX11_lineRefusal 31 = .ok (.lconst 0, 1) := dB_36_3_45.2.2.1.1
theorem dX11_lineRefusal_32 : decode cX11_lineRefusal 32 = .ok (.lcmp, 1) := dB_36_3_45.2.2.1.2
theorem dX11_lineRefusal_33 : decode cX11_lineRefusal 33 = .ok (.ifCond .lt 28, 3) := dB_36_3_45.2.2.2.1
theorem dX11_lineRefusal_36 : decode cX11_lineRefusal 36 = .ok (.lload 7, 2) := dB_36_3_45.2.2.2.2
theorem dB_36_3_46 : ((((decode cX11_lineRefusal 38 = .ok (.ldc2_w 302, 3)) ∧ (decode cX11_lineRefusal 41 = .ok (.lcmp, 1))) ∧ ((decode cX11_lineRefusal 42 = .ok (.ifCond .gt 19, 3)) ∧ (decode cX11_lineRefusal 45 = .ok (.lload 9, 2)))) ∧ (((decode cX11_lineRefusal 47 = .ok (.lconst 0, 1)) ∧ (decode cX11_lineRefusal 48 = .ok (.lcmp, 1))) ∧ ((decode cX11_lineRefusal 49 = .ok (.ifCond .lt 12, 3)) ∧ (decode cX11_lineRefusal 52 = .ok (.lload 9, 2))))) ∧ ((((decode cX11_lineRefusal 54 = .ok (.ldc2_w 304, 3)) ∧ (decode cX11_lineRefusal 57 = .ok (.lcmp, 1))) ∧ ((decode cX11_lineRefusal 58 = .ok (.ifCond .le 5, 3)) ∧ (decode cX11_lineRefusal 61 = .ok (.iconst (-1), 1)))) ∧ (((decode cX11_lineRefusal 62 = .ok (.ireturn, 1)) ∧ (decode cX11_lineRefusal 63 = .ok (.aload_n 0, 1))) ∧ ((decode cX11_lineRefusal 64 = .ok (.getfield 31, 3)) ∧ (decode cX11_lineRefusal 67 = .ok (.getfield 294, 3))))) := by first | decide +kernel | ((repeat' apply And.intro) <;> decide +kernel)
theorem dX11_lineRefusal_38 : decode cX11_lineRefusal 38 = .ok (.ldc2_w 302, 3) := dB_36_3_46.1.1.1.1
theorem dX11_lineRefusal_41 : decode cX11_lineRefusal 41 = .ok (.lcmp, 1) := dB_36_3_46.1.1.1.2
theorem dX11_lineRefusal_42 : decode cX11_lineRefusal 42 = .ok (.ifCond .gt 19, 3) := dB_36_3_46.1.1.2.1
theorem dX11_lineRefusal_45 : decode cX11_lineRefusal 45 = .ok (.lload 9, 2) := dB_36_3_46.1.1.2.2
theorem dX11_lineRefusal_47 : decode cX11_lineRefusal 47 = .ok (.lconst 0, 1) := dB_36_3_46.1.2.1.1
theorem dX11_lineRefusal_48 : decode cX11_lineRefusal 48 = .ok (.lcmp, 1) := dB_36_3_46.1.2.1.2
theorem dX11_lineRefusal_49 : decode cX11_lineRefusal 49 = .ok (.ifCond .lt 12, 3) := dB_36_3_46.1.2.2.1
theorem dX11_lineRefusal_52 : decode cX11_lineRefusal 52 = .ok (.lload 9, 2) := dB_36_3_46.1.2.2.2
theorem dX11_lineRefusal_54 : decode cX11_lineRefusal 54 = .ok (.ldc2_w 304, 3) := dB_36_3_46.2.1.1.1
theorem dX11_lineRefusal_57 : decode cX11_lineRefusal 57 = .ok (.lcmp, 1) := dB_36_3_46.2.1.1.2
theorem dX11_lineRefusal_58 : decode cX11_lineRefusal 58 = .ok (.ifCond .le 5, 3) := dB_36_3_46.2.1.2.1
theorem dX11_lineRefusal_61 : decode cX11_lineRefusal 61 = .ok (.iconst (-1), 1) := dB_36_3_46.2.1.2.2
theorem dX11_lineRefusal_62 : decode cX11_lineRefusal 62 = .ok (.ireturn, 1) := dB_36_3_46.2.2.1.1
theorem dX11_lineRefusal_63 : decode cX11_lineRefusal 63 = .ok (.aload_n 0, 1) := dB_36_3_46.2.2.1.2
theorem dX11_lineRefusal_64 : decode cX11_lineRefusal 64 = .ok (.getfield 31, 3) := dB_36_3_46.2.2.2.1
theorem dX11_lineRefusal_67 : decode cX11_lineRefusal 67 = .ok (.getfield 294, 3) := dB_36_3_46.2.2.2.2
theorem dB_36_3_47 : ((((decode cX11_lineRefusal 70 = .ok (.bipush 40, 2)) ∧ (decode cX11_lineRefusal 72 = .ok (.if_icmp .lt 8, 3))) ∧ ((decode cX11_lineRefusal 75 = .ok (.bipush (-3), 2)) ∧ (decode cX11_lineRefusal 77 = .ok (.goto 4, 3)))) ∧ (((decode cX11_lineRefusal 80 = .ok (.iconst 0, 1)) ∧ (decode cX11_lineRefusal 81 = .ok (.ireturn, 1))) ∧ ((decode cX11_addLine 0 = .ok (.aload_n 0, 1)) ∧ (decode cX11_addLine 1 = .ok (.getfield 31, 3))))) ∧ ((((decode cX11_addLine 4 = .ok (.iload_n 1, 1)) ∧ (decode cX11_addLine 5 = .ok (.iload_n 2, 1))) ∧ ((decode cX11_addLine 6 = .ok (.iload_n 3, 1)) ∧ (decode cX11_addLine 7 = .ok (.aload_n 0, 1)))) ∧ (((decode cX11_addLine 8 = .ok (.getfield 22, 3)) ∧ (decode cX11_addLine 11 = .ok (.iload_n 1, 1))) ∧ ((decode cX11_addLine 12 = .ok (.aaload, 1)) ∧ (decode cX11_addLine 13 = .ok (.iload 4, 2))))) := by first | decide +kernel | ((repeat' apply And.intro) <;> decide +kernel)
theorem dX11_lineRefusal_70 : decode cX11_lineRefusal 70 = .ok (.bipush 40, 2) := dB_36_3_47.1.1.1.1
theorem dX11_lineRefusal_72 : decode cX11_lineRefusal 72 = .ok (.if_icmp .lt 8, 3) := dB_36_3_47.1.1.1.2
theorem dX11_lineRefusal_75 : decode cX11_lineRefusal 75 = .ok (.bipush (-3), 2) := dB_36_3_47.1.1.2.1
theorem dX11_lineRefusal_77 : decode cX11_lineRefusal 77 = .ok (.goto 4, 3) := dB_36_3_47.1.1.2.2
theorem dX11_lineRefusal_80 : decode cX11_lineRefusal 80 = .ok (.iconst 0, 1) := dB_36_3_47.1.2.1.1
theorem dX11_lineRefusal_81 : decode cX11_lineRefusal 81 = .ok (.ireturn, 1) := dB_36_3_47.1.2.1.2
theorem dX11_addLine_0 : decode cX11_addLine 0 = .ok (.aload_n 0, 1) := dB_36_3_47.1.2.2.1
theorem dX11_addLine_1 : decode cX11_addLine 1 = .ok (.getfield 31, 3) := dB_36_3_47.1.2.2.2
theorem dX11_addLine_4 : decode cX11_addLine 4 = .ok (.iload_n 1, 1) := dB_36_3_47.2.1.1.1
theorem dX11_addLine_5 : decode cX11_addLine 5 = .ok (.iload_n 2, 1) := dB_36_3_47.2.1.1.2
theorem dX11_addLine_6 : decode cX11_addLine 6 = .ok (.iload_n 3, 1) := dB_36_3_47.2.1.2.1
theorem dX11_addLine_7 : decode cX11_addLine 7 = .ok (.aload_n 0, 1) := dB_36_3_47.2.1.2.2
theorem dX11_addLine_8 : decode cX11_addLine 8 = .ok (.getfield 22, 3) := dB_36_3_47.2.2.1.1
theorem dX11_addLine_11 : decode cX11_addLine 11 = .ok (.iload_n 1, 1) := dB_36_3_47.2.2.1.2
theorem dX11_addLine_12 : decode cX11_addLine 12 = .ok (.aaload, 1) := dB_36_3_47.2.2.2.1
theorem dX11_addLine_13 : decode cX11_addLine 13 = .ok (.iload 4, 2) := dB_36_3_47.2.2.2.2
theorem dB_36_3_48 : ((((decode cX11_addLine 15 = .ok (.invokevirtual 306, 3)) ∧ (decode cX11_addLine 18 = .ok (.iload 5, 2))) ∧ ((decode cX11_addLine 20 = .ok (.invokevirtual 309, 3)) ∧ (decode cX11_addLine 23 = .ok (.ireturn, 1)))) ∧ (((decode cX11_mostNow 0 = .ok (.aload_n 0, 1)) ∧ (decode cX11_mostNow 1 = .ok (.getfield 40, 3))) ∧ ((decode cX11_mostNow 4 = .ok (.bipush (-9), 2)) ∧ (decode cX11_mostNow 6 = .ok (.invokevirtual 190, 3))))) ∧ ((((decode cX11_mostNow 9 = .ok (.aload_n 0, 1)) ∧ (decode cX11_mostNow 10 = .ok (.getfield 40, 3))) ∧ ((decode cX11_mostNow 13 = .ok (.iload_n 1, 1)) ∧ (decode cX11_mostNow 14 = .ok (.iload_n 2, 1)))) ∧ (((decode cX11_mostNow 15 = .ok (.invokevirtual 198, 3)) ∧ (decode cX11_mostNow 18 = .ok (.ireturn, 1))) ∧ ((decode cX11_isMapNumber 0 = .ok (.iload_n 0, 1)) ∧ (decode cX11_isMapNumber 1 = .ok (.ifCond .lt 12, 3))))) := by first | decide +kernel | ((repeat' apply And.intro) <;> decide +kernel)
theorem dX11_addLine_15 : decode cX11_addLine 15 = .ok (.invokevirtual 306, 3) := dB_36_3_48.1.1.1.1
theorem dX11_addLine_18 : decode cX11_addLine 18 = .ok (.iload 5, 2) := dB_36_3_48.1.1.1.2
theorem dX11_addLine_20 : decode cX11_addLine 20 = .ok (.invokevirtual 309, 3) := dB_36_3_48.1.1.2.1
theorem dX11_addLine_23 : decode cX11_addLine 23 = .ok (.ireturn, 1) := dB_36_3_48.1.1.2.2
theorem dX11_mostNow_0 : decode cX11_mostNow 0 = .ok (.aload_n 0, 1) := dB_36_3_48.1.2.1.1
theorem dX11_mostNow_1 : decode cX11_mostNow 1 = .ok (.getfield 40, 3) := dB_36_3_48.1.2.1.2
theorem dX11_mostNow_4 : decode cX11_mostNow 4 = .ok (.bipush (-9), 2) := dB_36_3_48.1.2.2.1
theorem dX11_mostNow_6 : decode cX11_mostNow 6 = .ok (.invokevirtual 190, 3) := dB_36_3_48.1.2.2.2
theorem dX11_mostNow_9 : decode cX11_mostNow 9 = .ok (.aload_n 0, 1) := dB_36_3_48.2.1.1.1
theorem dX11_mostNow_10 : decode cX11_mostNow 10 = .ok (.getfield 40, 3) := dB_36_3_48.2.1.1.2
theorem dX11_mostNow_13 : decode cX11_mostNow 13 = .ok (.iload_n 1, 1) := dB_36_3_48.2.1.2.1
theorem dX11_mostNow_14 : decode cX11_mostNow 14 = .ok (.iload_n 2, 1) := dB_36_3_48.2.1.2.2
theorem dX11_mostNow_15 : decode cX11_mostNow 15 = .ok (.invokevirtual 198, 3) := dB_36_3_48.2.2.1.1
theorem dX11_mostNow_18 : decode cX11_mostNow 18 = .ok (.ireturn, 1) := dB_36_3_48.2.2.1.2
theorem dX11_isMapNumber_0 : decode cX11_isMapNumber 0 = .ok (.iload_n 0, 1) := dB_36_3_48.2.2.2.1
theorem dX11_isMapNumber_1 : decode cX11_isMapNumber 1 = .ok (.ifCond .lt 12, 3) := dB_36_3_48.2.2.2.2
theorem dB_36_3_49 : ((((decode cX11_isMapNumber 4 = .ok (.iload_n 0, 1)) ∧ (decode cX11_isMapNumber 5 = .ok (.iconst 4, 1))) ∧ ((decode cX11_isMapNumber 6 = .ok (.if_icmp .ge 7, 3)) ∧ (decode cX11_isMapNumber 9 = .ok (.iconst 1, 1)))) ∧ (((decode cX11_isMapNumber 10 = .ok (.goto 4, 3)) ∧ (decode cX11_isMapNumber 13 = .ok (.iconst 0, 1))) ∧ ((decode cX11_isMapNumber 14 = .ok (.ireturn, 1)) ∧ (decode cX11_isMapKind 0 = .ok (.iload_n 0, 1))))) ∧ ((((decode cX11_isMapKind 1 = .ok (.ifCond .lt 12, 3)) ∧ (decode cX11_isMapKind 4 = .ok (.iload_n 0, 1))) ∧ ((decode cX11_isMapKind 5 = .ok (.iconst 3, 1)) ∧ (decode cX11_isMapKind 6 = .ok (.if_icmp .ge 7, 3)))) ∧ (((decode cX11_isMapKind 9 = .ok (.iconst 1, 1)) ∧ (decode cX11_isMapKind 10 = .ok (.goto 4, 3))) ∧ ((decode cX11_isMapKind 13 = .ok (.iconst 0, 1)) ∧ (decode cX11_isMapKind 14 = .ok (.ireturn, 1))))) := by first | decide +kernel | ((repeat' apply And.intro) <;> decide +kernel)
theorem dX11_isMapNumber_4 : decode cX11_isMapNumber 4 = .ok (.iload_n 0, 1) := dB_36_3_49.1.1.1.1
theorem dX11_isMapNumber_5 : decode cX11_isMapNumber 5 = .ok (.iconst 4, 1) := dB_36_3_49.1.1.1.2
theorem dX11_isMapNumber_6 : decode cX11_isMapNumber 6 = .ok (.if_icmp .ge 7, 3) := dB_36_3_49.1.1.2.1
theorem dX11_isMapNumber_9 : decode cX11_isMapNumber 9 = .ok (.iconst 1, 1) := dB_36_3_49.1.1.2.2
theorem dX11_isMapNumber_10 : decode cX11_isMapNumber 10 = .ok (.goto 4, 3) := dB_36_3_49.1.2.1.1
theorem dX11_isMapNumber_13 : decode cX11_isMapNumber 13 = .ok (.iconst 0, 1) := dB_36_3_49.1.2.1.2
theorem dX11_isMapNumber_14 : decode cX11_isMapNumber 14 = .ok (.ireturn, 1) := dB_36_3_49.1.2.2.1
theorem dX11_isMapKind_0 : decode cX11_isMapKind 0 = .ok (.iload_n 0, 1) := dB_36_3_49.1.2.2.2
theorem dX11_isMapKind_1 : decode cX11_isMapKind 1 = .ok (.ifCond .lt 12, 3) := dB_36_3_49.2.1.1.1
theorem dX11_isMapKind_4 : decode cX11_isMapKind 4 = .ok (.iload_n 0, 1) := dB_36_3_49.2.1.1.2
theorem dX11_isMapKind_5 : decode cX11_isMapKind 5 = .ok (.iconst 3, 1) := dB_36_3_49.2.1.2.1
theorem dX11_isMapKind_6 : decode cX11_isMapKind 6 = .ok (.if_icmp .ge 7, 3) := dB_36_3_49.2.1.2.2
theorem dX11_isMapKind_9 : decode cX11_isMapKind 9 = .ok (.iconst 1, 1) := dB_36_3_49.2.2.1.1
theorem dX11_isMapKind_10 : decode cX11_isMapKind 10 = .ok (.goto 4, 3) := dB_36_3_49.2.2.1.2
theorem dX11_isMapKind_13 : decode cX11_isMapKind 13 = .ok (.iconst 0, 1) := dB_36_3_49.2.2.2.1
theorem dX11_isMapKind_14 : decode cX11_isMapKind 14 = .ok (.ireturn, 1) := dB_36_3_49.2.2.2.2
theorem dB_36_3_50 : ((((decode cX11_mapRefusal 0 = .ok (.iload_n 0, 1)) ∧ (decode cX11_mapRefusal 1 = .ok (.invokestatic 267, 3))) ∧ ((decode cX11_mapRefusal 4 = .ok (.ifCond .eq 16, 3)) ∧ (decode cX11_mapRefusal 7 = .ok (.iload_n 1, 1)))) ∧ (((decode cX11_mapRefusal 8 = .ok (.invokestatic 312, 3)) ∧ (decode cX11_mapRefusal 11 = .ok (.ifCond .eq 9, 3))) ∧ ((decode cX11_mapRefusal 14 = .ok (.iload_n 2, 1)) ∧ (decode cX11_mapRefusal 15 = .ok (.bipush 6, 2))))) ∧ ((((decode cX11_mapRefusal 17 = .ok (.if_icmp .le 5, 3)) ∧ (decode cX11_mapRefusal 20 = .ok (.iconst (-1), 1))) ∧ ((decode cX11_mapRefusal 21 = .ok (.ireturn, 1)) ∧ (decode cX11_mapRefusal 22 = .ok (.iload_n 2, 1)))) ∧ (((decode cX11_mapRefusal 23 = .ok (.ifCond .ge 8, 3)) ∧ (decode cX11_mapRefusal 26 = .ok (.bipush (-15), 2))) ∧ ((decode cX11_mapRefusal 28 = .ok (.goto 4, 3)) ∧ (decode cX11_mapRefusal 31 = .ok (.iconst 0, 1))))) := by first | decide +kernel | ((repeat' apply And.intro) <;> decide +kernel)
theorem dX11_mapRefusal_0 : decode cX11_mapRefusal 0 = .ok (.iload_n 0, 1) := dB_36_3_50.1.1.1.1
theorem dX11_mapRefusal_1 : decode cX11_mapRefusal 1 = .ok (.invokestatic 267, 3) := dB_36_3_50.1.1.1.2
theorem dX11_mapRefusal_4 : decode cX11_mapRefusal 4 = .ok (.ifCond .eq 16, 3) := dB_36_3_50.1.1.2.1
theorem dX11_mapRefusal_7 : decode cX11_mapRefusal 7 = .ok (.iload_n 1, 1) := dB_36_3_50.1.1.2.2
theorem dX11_mapRefusal_8 : decode cX11_mapRefusal 8 = .ok (.invokestatic 312, 3) := dB_36_3_50.1.2.1.1
theorem dX11_mapRefusal_11 : decode cX11_mapRefusal 11 = .ok (.ifCond .eq 9, 3) := dB_36_3_50.1.2.1.2
theorem dX11_mapRefusal_14 : decode cX11_mapRefusal 14 = .ok (.iload_n 2, 1) := dB_36_3_50.1.2.2.1
theorem dX11_mapRefusal_15 : decode cX11_mapRefusal 15 = .ok (.bipush 6, 2) := dB_36_3_50.1.2.2.2
theorem dX11_mapRefusal_17 : decode cX11_mapRefusal 17 = .ok (.if_icmp .le 5, 3) := dB_36_3_50.2.1.1.1
theorem dX11_mapRefusal_20 : decode cX11_mapRefusal 20 = .ok (.iconst (-1), 1) := dB_36_3_50.2.1.1.2
theorem dX11_mapRefusal_21 : decode cX11_mapRefusal 21 = .ok (.ireturn, 1) := dB_36_3_50.2.1.2.1
theorem dX11_mapRefusal_22 : decode cX11_mapRefusal 22 = .ok (.iload_n 2, 1) := dB_36_3_50.2.1.2.2
theorem dX11_mapRefusal_23 : decode cX11_mapRefusal 23 = .ok (.ifCond .ge 8, 3) := dB_36_3_50.2.2.1.1
theorem dX11_mapRefusal_26 : decode cX11_mapRefusal 26 = .ok (.bipush (-15), 2) := dB_36_3_50.2.2.1.2
theorem dX11_mapRefusal_28 : decode cX11_mapRefusal 28 = .ok (.goto 4, 3) := dB_36_3_50.2.2.2.1
theorem dX11_mapRefusal_31 : decode cX11_mapRefusal 31 = .ok (.iconst 0, 1) := dB_36_3_50.2.2.2.2
theorem dB_36_3_51 : ((((decode cX11_mapRefusal 32 = .ok (.ireturn, 1)) ∧ (decode cX11_rowRefusal 0 = .ok (.iload_n 1, 1))) ∧ ((decode cX11_rowRefusal 1 = .ok (.invokestatic 267, 3)) ∧ (decode cX11_rowRefusal 4 = .ok (.ifCond .eq 8, 3)))) ∧ (((decode cX11_rowRefusal 7 = .ok (.iload_n 3, 1)) ∧ (decode cX11_rowRefusal 8 = .ok (.iconst 5, 1))) ∧ ((decode cX11_rowRefusal 9 = .ok (.if_icmp .le 5, 3)) ∧ (decode cX11_rowRefusal 12 = .ok (.iconst (-1), 1))))) ∧ ((((decode cX11_rowRefusal 13 = .ok (.ireturn, 1)) ∧ (decode cX11_rowRefusal 14 = .ok (.aload_n 0, 1))) ∧ ((decode cX11_rowRefusal 15 = .ok (.getfield 72, 3)) ∧ (decode cX11_rowRefusal 18 = .ok (.iload_n 1, 1)))) ∧ (((decode cX11_rowRefusal 19 = .ok (.aaload, 1)) ∧ (decode cX11_rowRefusal 20 = .ok (.invokevirtual 281, 3))) ∧ ((decode cX11_rowRefusal 23 = .ok (.ifCond .ne 6, 3)) ∧ (decode cX11_rowRefusal 26 = .ok (.bipush (-11), 2))))) := by first | decide +kernel | ((repeat' apply And.intro) <;> decide +kernel)
theorem dX11_mapRefusal_32 : decode cX11_mapRefusal 32 = .ok (.ireturn, 1) := dB_36_3_51.1.1.1.1
theorem dX11_rowRefusal_0 : decode cX11_rowRefusal 0 = .ok (.iload_n 1, 1) := dB_36_3_51.1.1.1.2
theorem dX11_rowRefusal_1 : decode cX11_rowRefusal 1 = .ok (.invokestatic 267, 3) := dB_36_3_51.1.1.2.1
theorem dX11_rowRefusal_4 : decode cX11_rowRefusal 4 = .ok (.ifCond .eq 8, 3) := dB_36_3_51.1.1.2.2
theorem dX11_rowRefusal_7 : decode cX11_rowRefusal 7 = .ok (.iload_n 3, 1) := dB_36_3_51.1.2.1.1
theorem dX11_rowRefusal_8 : decode cX11_rowRefusal 8 = .ok (.iconst 5, 1) := dB_36_3_51.1.2.1.2
theorem dX11_rowRefusal_9 : decode cX11_rowRefusal 9 = .ok (.if_icmp .le 5, 3) := dB_36_3_51.1.2.2.1
theorem dX11_rowRefusal_12 : decode cX11_rowRefusal 12 = .ok (.iconst (-1), 1) := dB_36_3_51.1.2.2.2
theorem dX11_rowRefusal_13 : decode cX11_rowRefusal 13 = .ok (.ireturn, 1) := dB_36_3_51.2.1.1.1
theorem dX11_rowRefusal_14 : decode cX11_rowRefusal 14 = .ok (.aload_n 0, 1) := dB_36_3_51.2.1.1.2
theorem dX11_rowRefusal_15 : decode cX11_rowRefusal 15 = .ok (.getfield 72, 3) := dB_36_3_51.2.1.2.1
theorem dX11_rowRefusal_18 : decode cX11_rowRefusal 18 = .ok (.iload_n 1, 1) := dB_36_3_51.2.1.2.2
theorem dX11_rowRefusal_19 : decode cX11_rowRefusal 19 = .ok (.aaload, 1) := dB_36_3_51.2.2.1.1
theorem dX11_rowRefusal_20 : decode cX11_rowRefusal 20 = .ok (.invokevirtual 281, 3) := dB_36_3_51.2.2.1.2
theorem dX11_rowRefusal_23 : decode cX11_rowRefusal 23 = .ok (.ifCond .ne 6, 3) := dB_36_3_51.2.2.2.1
theorem dX11_rowRefusal_26 : decode cX11_rowRefusal 26 = .ok (.bipush (-11), 2) := dB_36_3_51.2.2.2.2
theorem dB_36_3_52 : ((((decode cX11_rowRefusal 28 = .ok (.ireturn, 1)) ∧ (decode cX11_rowRefusal 29 = .ok (.aload_n 0, 1))) ∧ ((decode cX11_rowRefusal 30 = .ok (.getfield 72, 3)) ∧ (decode cX11_rowRefusal 33 = .ok (.iload_n 1, 1)))) ∧ (((decode cX11_rowRefusal 34 = .ok (.aaload, 1)) ∧ (decode cX11_rowRefusal 35 = .ok (.iload_n 2, 1))) ∧ ((decode cX11_rowRefusal 36 = .ok (.invokevirtual 315, 3)) ∧ (decode cX11_rowRefusal 39 = .ok (.ifCond .ne 6, 3))))) ∧ ((((decode cX11_rowRefusal 42 = .ok (.bipush (-12), 2)) ∧ (decode cX11_rowRefusal 44 = .ok (.ireturn, 1))) ∧ ((decode cX11_rowRefusal 45 = .ok (.iload_n 3, 1)) ∧ (decode cX11_rowRefusal 46 = .ok (.ifCond .ge 8, 3)))) ∧ (((decode cX11_rowRefusal 49 = .ok (.bipush (-15), 2)) ∧ (decode cX11_rowRefusal 51 = .ok (.goto 4, 3))) ∧ ((decode cX11_rowRefusal 54 = .ok (.iconst 0, 1)) ∧ (decode cX11_rowRefusal 55 = .ok (.ireturn, 1))))) := by first | decide +kernel | ((repeat' apply And.intro) <;> decide +kernel)
theorem dX11_rowRefusal_28 : decode cX11_rowRefusal 28 = .ok (.ireturn, 1) := dB_36_3_52.1.1.1.1
theorem dX11_rowRefusal_29 : decode cX11_rowRefusal 29 = .ok (.aload_n 0, 1) := dB_36_3_52.1.1.1.2
theorem dX11_rowRefusal_30 : decode cX11_rowRefusal 30 = .ok (.getfield 72, 3) := dB_36_3_52.1.1.2.1
theorem dX11_rowRefusal_33 : decode cX11_rowRefusal 33 = .ok (.iload_n 1, 1) := dB_36_3_52.1.1.2.2
theorem dX11_rowRefusal_34 : decode cX11_rowRefusal 34 = .ok (.aaload, 1) := dB_36_3_52.1.2.1.1
theorem dX11_rowRefusal_35 : decode cX11_rowRefusal 35 = .ok (.iload_n 2, 1) := dB_36_3_52.1.2.1.2
theorem dX11_rowRefusal_36 : decode cX11_rowRefusal 36 = .ok (.invokevirtual 315, 3) := dB_36_3_52.1.2.2.1
theorem dX11_rowRefusal_39 : decode cX11_rowRefusal 39 = .ok (.ifCond .ne 6, 3) := dB_36_3_52.1.2.2.2
theorem dX11_rowRefusal_42 : decode cX11_rowRefusal 42 = .ok (.bipush (-12), 2) := dB_36_3_52.2.1.1.1
theorem dX11_rowRefusal_44 : decode cX11_rowRefusal 44 = .ok (.ireturn, 1) := dB_36_3_52.2.1.1.2
theorem dX11_rowRefusal_45 : decode cX11_rowRefusal 45 = .ok (.iload_n 3, 1) := dB_36_3_52.2.1.2.1
theorem dX11_rowRefusal_46 : decode cX11_rowRefusal 46 = .ok (.ifCond .ge 8, 3) := dB_36_3_52.2.1.2.2
theorem dX11_rowRefusal_49 : decode cX11_rowRefusal 49 = .ok (.bipush (-15), 2) := dB_36_3_52.2.2.1.1
theorem dX11_rowRefusal_51 : decode cX11_rowRefusal 51 = .ok (.goto 4, 3) := dB_36_3_52.2.2.1.2
theorem dX11_rowRefusal_54 : decode cX11_rowRefusal 54 = .ok (.iconst 0, 1) := dB_36_3_52.2.2.2.1
theorem dX11_rowRefusal_55 : decode cX11_rowRefusal 55 = .ok (.ireturn, 1) := dB_36_3_52.2.2.2.2
theorem dB_36_3_53 : ((((decode cX11_numberRefusal 0 = .ok (.iload_n 1, 1)) ∧ (decode cX11_numberRefusal 1 = .ok (.invokestatic 267, 3))) ∧ ((decode cX11_numberRefusal 4 = .ok (.ifCond .eq 10, 3)) ∧ (decode cX11_numberRefusal 7 = .ok (.iload_n 2, 1)))) ∧ (((decode cX11_numberRefusal 8 = .ok (.invokestatic 312, 3)) ∧ (decode cX11_numberRefusal 11 = .ok (.ifCond .ne 5, 3))) ∧ ((decode cX11_numberRefusal 14 = .ok (.iconst (-1), 1)) ∧ (decode cX11_numberRefusal 15 = .ok (.ireturn, 1))))) ∧ ((((decode cX11_numberRefusal 16 = .ok (.aload_n 0, 1)) ∧ (decode cX11_numberRefusal 17 = .ok (.getfield 72, 3))) ∧ ((decode cX11_numberRefusal 20 = .ok (.iload_n 1, 1)) ∧ (decode cX11_numberRefusal 21 = .ok (.aaload, 1)))) ∧ (((decode cX11_numberRefusal 22 = .ok (.invokevirtual 281, 3)) ∧ (decode cX11_numberRefusal 25 = .ok (.ifCond .ne 6, 3))) ∧ ((decode cX11_numberRefusal 28 = .ok (.bipush (-11), 2)) ∧ (decode cX11_numberRefusal 30 = .ok (.ireturn, 1))))) := by first | decide +kernel | ((repeat' apply And.intro) <;> decide +kernel)
theorem dX11_numberRefusal_0 : decode cX11_numberRefusal 0 = .ok (.iload_n 1, 1) := dB_36_3_53.1.1.1.1
theorem dX11_numberRefusal_1 : decode cX11_numberRefusal 1 = .ok (.invokestatic 267, 3) := dB_36_3_53.1.1.1.2
theorem dX11_numberRefusal_4 : decode cX11_numberRefusal 4 = .ok (.ifCond .eq 10, 3) := dB_36_3_53.1.1.2.1
theorem dX11_numberRefusal_7 : decode cX11_numberRefusal 7 = .ok (.iload_n 2, 1) := dB_36_3_53.1.1.2.2
theorem dX11_numberRefusal_8 : decode cX11_numberRefusal 8 = .ok (.invokestatic 312, 3) := dB_36_3_53.1.2.1.1
theorem dX11_numberRefusal_11 : decode cX11_numberRefusal 11 = .ok (.ifCond .ne 5, 3) := dB_36_3_53.1.2.1.2
theorem dX11_numberRefusal_14 : decode cX11_numberRefusal 14 = .ok (.iconst (-1), 1) := dB_36_3_53.1.2.2.1
theorem dX11_numberRefusal_15 : decode cX11_numberRefusal 15 = .ok (.ireturn, 1) := dB_36_3_53.1.2.2.2
theorem dX11_numberRefusal_16 : decode cX11_numberRefusal 16 = .ok (.aload_n 0, 1) := dB_36_3_53.2.1.1.1
theorem dX11_numberRefusal_17 : decode cX11_numberRefusal 17 = .ok (.getfield 72, 3) := dB_36_3_53.2.1.1.2
theorem dX11_numberRefusal_20 : decode cX11_numberRefusal 20 = .ok (.iload_n 1, 1) := dB_36_3_53.2.1.2.1
theorem dX11_numberRefusal_21 : decode cX11_numberRefusal 21 = .ok (.aaload, 1) := dB_36_3_53.2.1.2.2
theorem dX11_numberRefusal_22 : decode cX11_numberRefusal 22 = .ok (.invokevirtual 281, 3) := dB_36_3_53.2.2.1.1
theorem dX11_numberRefusal_25 : decode cX11_numberRefusal 25 = .ok (.ifCond .ne 6, 3) := dB_36_3_53.2.2.1.2
theorem dX11_numberRefusal_28 : decode cX11_numberRefusal 28 = .ok (.bipush (-11), 2) := dB_36_3_53.2.2.2.1
theorem dX11_numberRefusal_30 : decode cX11_numberRefusal 30 = .ok (.ireturn, 1) := dB_36_3_53.2.2.2.2
theorem dB_36_3_54 : ((((decode cX11_numberRefusal 31 = .ok (.aload_n 0, 1)) ∧ (decode cX11_numberRefusal 32 = .ok (.getfield 72, 3))) ∧ ((decode cX11_numberRefusal 35 = .ok (.iload_n 1, 1)) ∧ (decode cX11_numberRefusal 36 = .ok (.aaload, 1)))) ∧ (((decode cX11_numberRefusal 37 = .ok (.getfield 318, 3)) ∧ (decode cX11_numberRefusal 40 = .ok (.iload_n 2, 1))) ∧ ((decode cX11_numberRefusal 41 = .ok (.if_icmp .eq 6, 3)) ∧ (decode cX11_numberRefusal 44 = .ok (.bipush (-13), 2))))) ∧ ((((decode cX11_numberRefusal 46 = .ok (.ireturn, 1)) ∧ (decode cX11_numberRefusal 47 = .ok (.aload_n 0, 1))) ∧ ((decode cX11_numberRefusal 48 = .ok (.getfield 72, 3)) ∧ (decode cX11_numberRefusal 51 = .ok (.iload_n 1, 1)))) ∧ (((decode cX11_numberRefusal 52 = .ok (.aaload, 1)) ∧ (decode cX11_numberRefusal 53 = .ok (.iload_n 3, 1))) ∧ ((decode cX11_numberRefusal 54 = .ok (.invokevirtual 315, 3)) ∧ (decode cX11_numberRefusal 57 = .ok (.ifCond .ne 6, 3))))) := by first | decide +kernel | ((repeat' apply And.intro) <;> decide +kernel)
theorem dX11_numberRefusal_31 : decode cX11_numberRefusal 31 = .ok (.aload_n 0, 1) := dB_36_3_54.1.1.1.1
theorem dX11_numberRefusal_32 : decode cX11_numberRefusal 32 = .ok (.getfield 72, 3) := dB_36_3_54.1.1.1.2
theorem dX11_numberRefusal_35 : decode cX11_numberRefusal 35 = .ok (.iload_n 1, 1) := dB_36_3_54.1.1.2.1
theorem dX11_numberRefusal_36 : decode cX11_numberRefusal 36 = .ok (.aaload, 1) := dB_36_3_54.1.1.2.2
theorem dX11_numberRefusal_37 : decode cX11_numberRefusal 37 = .ok (.getfield 318, 3) := dB_36_3_54.1.2.1.1
theorem dX11_numberRefusal_40 : decode cX11_numberRefusal 40 = .ok (.iload_n 2, 1) := dB_36_3_54.1.2.1.2
theorem dX11_numberRefusal_41 : decode cX11_numberRefusal 41 = .ok (.if_icmp .eq 6, 3) := dB_36_3_54.1.2.2.1
theorem dX11_numberRefusal_44 : decode cX11_numberRefusal 44 = .ok (.bipush (-13), 2) := dB_36_3_54.1.2.2.2
theorem dX11_numberRefusal_46 : decode cX11_numberRefusal 46 = .ok (.ireturn, 1) := dB_36_3_54.2.1.1.1
theorem dX11_numberRefusal_47 : decode cX11_numberRefusal 47 = .ok (.aload_n 0, 1) := dB_36_3_54.2.1.1.2
theorem dX11_numberRefusal_48 : decode cX11_numberRefusal 48 = .ok (.getfield 72, 3) := dB_36_3_54.2.1.2.1
theorem dX11_numberRefusal_51 : decode cX11_numberRefusal 51 = .ok (.iload_n 1, 1) := dB_36_3_54.2.1.2.2
theorem dX11_numberRefusal_52 : decode cX11_numberRefusal 52 = .ok (.aaload, 1) := dB_36_3_54.2.2.1.1
theorem dX11_numberRefusal_53 : decode cX11_numberRefusal 53 = .ok (.iload_n 3, 1) := dB_36_3_54.2.2.1.2
theorem dX11_numberRefusal_54 : decode cX11_numberRefusal 54 = .ok (.invokevirtual 315, 3) := dB_36_3_54.2.2.2.1
theorem dX11_numberRefusal_57 : decode cX11_numberRefusal 57 = .ok (.ifCond .ne 6, 3) := dB_36_3_54.2.2.2.2
theorem dB_36_3_55 : ((((decode cX11_numberRefusal 60 = .ok (.bipush (-12), 2)) ∧ (decode cX11_numberRefusal 62 = .ok (.ireturn, 1))) ∧ ((decode cX11_numberRefusal 63 = .ok (.aload_n 0, 1)) ∧ (decode cX11_numberRefusal 64 = .ok (.getfield 72, 3)))) ∧ (((decode cX11_numberRefusal 67 = .ok (.iload_n 1, 1)) ∧ (decode cX11_numberRefusal 68 = .ok (.aaload, 1))) ∧ ((decode cX11_numberRefusal 69 = .ok (.getfield 321, 3)) ∧ (decode cX11_numberRefusal 72 = .ok (.iload_n 3, 1))))) ∧ ((((decode cX11_numberRefusal 73 = .ok (.iaload, 1)) ∧ (decode cX11_numberRefusal 74 = .ok (.ifCond .ge 6, 3))) ∧ ((decode cX11_numberRefusal 77 = .ok (.bipush (-11), 2)) ∧ (decode cX11_numberRefusal 79 = .ok (.ireturn, 1)))) ∧ (((decode cX11_numberRefusal 80 = .ok (.iload 4, 2)) ∧ (decode cX11_numberRefusal 82 = .ok (.ifCond .lt 19, 3))) ∧ ((decode cX11_numberRefusal 85 = .ok (.iload 4, 2)) ∧ (decode cX11_numberRefusal 87 = .ok (.aload_n 0, 1))))) := by first | decide +kernel | ((repeat' apply And.intro) <;> decide +kernel)
theorem dX11_numberRefusal_60 : decode cX11_numberRefusal 60 = .ok (.bipush (-12), 2) := dB_36_3_55.1.1.1.1
theorem dX11_numberRefusal_62 : decode cX11_numberRefusal 62 = .ok (.ireturn, 1) := dB_36_3_55.1.1.1.2
theorem dX11_numberRefusal_63 : decode cX11_numberRefusal 63 = .ok (.aload_n 0, 1) := dB_36_3_55.1.1.2.1
theorem dX11_numberRefusal_64 : decode cX11_numberRefusal 64 = .ok (.getfield 72, 3) := dB_36_3_55.1.1.2.2
theorem dX11_numberRefusal_67 : decode cX11_numberRefusal 67 = .ok (.iload_n 1, 1) := dB_36_3_55.1.2.1.1
theorem dX11_numberRefusal_68 : decode cX11_numberRefusal 68 = .ok (.aaload, 1) := dB_36_3_55.1.2.1.2
theorem dX11_numberRefusal_69 : decode cX11_numberRefusal 69 = .ok (.getfield 321, 3) := dB_36_3_55.1.2.2.1
theorem dX11_numberRefusal_72 : decode cX11_numberRefusal 72 = .ok (.iload_n 3, 1) := dB_36_3_55.1.2.2.2
theorem dX11_numberRefusal_73 : decode cX11_numberRefusal 73 = .ok (.iaload, 1) := dB_36_3_55.2.1.1.1
theorem dX11_numberRefusal_74 : decode cX11_numberRefusal 74 = .ok (.ifCond .ge 6, 3) := dB_36_3_55.2.1.1.2
theorem dX11_numberRefusal_77 : decode cX11_numberRefusal 77 = .ok (.bipush (-11), 2) := dB_36_3_55.2.1.2.1
theorem dX11_numberRefusal_79 : decode cX11_numberRefusal 79 = .ok (.ireturn, 1) := dB_36_3_55.2.1.2.2
theorem dX11_numberRefusal_80 : decode cX11_numberRefusal 80 = .ok (.iload 4, 2) := dB_36_3_55.2.2.1.1
theorem dX11_numberRefusal_82 : decode cX11_numberRefusal 82 = .ok (.ifCond .lt 19, 3) := dB_36_3_55.2.2.1.2
theorem dX11_numberRefusal_85 : decode cX11_numberRefusal 85 = .ok (.iload 4, 2) := dB_36_3_55.2.2.2.1
theorem dX11_numberRefusal_87 : decode cX11_numberRefusal 87 = .ok (.aload_n 0, 1) := dB_36_3_55.2.2.2.2
theorem dB_36_3_56 : ((decode cX11_numberRefusal 88 = .ok (.getfield 72, 3)) ∧ (decode cX11_numberRefusal 91 = .ok (.iload_n 1, 1))) ∧ ((decode cX11_numberRefusal 92 = .ok (.aaload, 1)) ∧ (decode cX11_numberRefusal 93 = .ok (.getfield 321, 3))) := by first | decide +kernel | ((repeat' apply And.intro) <;> decide +kernel)
theorem dX11_numberRefusal_88 : decode cX11_numberRefusal 88 = .ok (.getfield 72, 3) := dB_36_3_56.1.1
theorem dX11_numberRefusal_91 : decode cX11_numberRefusal 91 = .ok (.iload_n 1, 1) := dB_36_3_56.1.2
theorem dX11_numberRefusal_92 : decode cX11_numberRefusal 92 = .ok (.aaload, 1) := dB_36_3_56.2.1
theorem dX11_numberRefusal_93 : decode cX11_numberRefusal 93 = .ok (.getfield 321, 3) := dB_36_3_56.2.2
end

section
theorem dB_36_4_0 : ((((decode cX11_numberRefusal 96 = .ok (.iload_n 3, 1)) ∧ (decode cX11_numberRefusal 97 = .ok (.iaload, 1))) ∧ ((decode cX11_numberRefusal 98 = .ok (.if_icmp .lt 8, 3)) ∧ (decode cX11_numberRefusal 101 = .ok (.bipush (-12), 2)))) ∧ (((decode cX11_numberRefusal 103 = .ok (.goto 4, 3)) ∧ (decode cX11_numberRefusal 106 = .ok (.iconst 0, 1))) ∧ ((decode cX11_numberRefusal 107 = .ok (.ireturn, 1)) ∧ (decode cX11_readRefusal 0 = .ok (.aload_n 1, 1))))) ∧ ((((decode cX11_readRefusal 1 = .ok (.getfield 321, 3)) ∧ (decode cX11_readRefusal 4 = .ok (.iload_n 2, 1))) ∧ ((decode cX11_readRefusal 5 = .ok (.iaload, 1)) ∧ (decode cX11_readRefusal 6 = .ok (.ifCond .ge 6, 3)))) ∧ (((decode cX11_readRefusal 9 = .ok (.bipush (-11), 2)) ∧ (decode cX11_readRefusal 11 = .ok (.ireturn, 1))) ∧ ((decode cX11_readRefusal 12 = .ok (.aload_n 1, 1)) ∧ (decode cX11_readRefusal 13 = .ok (.getfield 321, 3))))) := by first | decide +kernel | ((repeat' apply And.intro) <;> decide +kernel)
theorem dX11_numberRefusal_96 : decode cX11_numberRefusal 96 = .ok (.iload_n 3, 1) := dB_36_4_0.1.1.1.1
theorem dX11_numberRefusal_97 : decode cX11_numberRefusal 97 = .ok (.iaload, 1) := dB_36_4_0.1.1.1.2
theorem dX11_numberRefusal_98 : decode cX11_numberRefusal 98 = .ok (.if_icmp .lt 8, 3) := dB_36_4_0.1.1.2.1
theorem dX11_numberRefusal_101 : decode cX11_numberRefusal 101 = .ok (.bipush (-12), 2) := dB_36_4_0.1.1.2.2
theorem dX11_numberRefusal_103 : decode cX11_numberRefusal 103 = .ok (.goto 4, 3) := dB_36_4_0.1.2.1.1
theorem dX11_numberRefusal_106 : decode cX11_numberRefusal 106 = .ok (.iconst 0, 1) := dB_36_4_0.1.2.1.2
theorem dX11_numberRefusal_107 : decode cX11_numberRefusal 107 = .ok (.ireturn, 1) := dB_36_4_0.1.2.2.1
theorem dX11_readRefusal_0 : decode cX11_readRefusal 0 = .ok (.aload_n 1, 1) := dB_36_4_0.1.2.2.2
theorem dX11_readRefusal_1 : decode cX11_readRefusal 1 = .ok (.getfield 321, 3) := dB_36_4_0.2.1.1.1
theorem dX11_readRefusal_4 : decode cX11_readRefusal 4 = .ok (.iload_n 2, 1) := dB_36_4_0.2.1.1.2
theorem dX11_readRefusal_5 : decode cX11_readRefusal 5 = .ok (.iaload, 1) := dB_36_4_0.2.1.2.1
theorem dX11_readRefusal_6 : decode cX11_readRefusal 6 = .ok (.ifCond .ge 6, 3) := dB_36_4_0.2.1.2.2
theorem dX11_readRefusal_9 : decode cX11_readRefusal 9 = .ok (.bipush (-11), 2) := dB_36_4_0.2.2.1.1
theorem dX11_readRefusal_11 : decode cX11_readRefusal 11 = .ok (.ireturn, 1) := dB_36_4_0.2.2.1.2
theorem dX11_readRefusal_12 : decode cX11_readRefusal 12 = .ok (.aload_n 1, 1) := dB_36_4_0.2.2.2.1
theorem dX11_readRefusal_13 : decode cX11_readRefusal 13 = .ok (.getfield 321, 3) := dB_36_4_0.2.2.2.2
theorem dB_36_4_1 : ((((decode cX11_readRefusal 16 = .ok (.iload_n 2, 1)) ∧ (decode cX11_readRefusal 17 = .ok (.iaload, 1))) ∧ ((decode cX11_readRefusal 18 = .ok (.iconst 5, 1)) ∧ (decode cX11_readRefusal 19 = .ok (.if_icmp .ge 6, 3)))) ∧ (((decode cX11_readRefusal 22 = .ok (.bipush (-12), 2)) ∧ (decode cX11_readRefusal 24 = .ok (.ireturn, 1))) ∧ ((decode cX11_readRefusal 25 = .ok (.aload_n 0, 1)) ∧ (decode cX11_readRefusal 26 = .ok (.aload_n 1, 1))))) ∧ ((((decode cX11_readRefusal 27 = .ok (.iload_n 2, 1)) ∧ (decode cX11_readRefusal 28 = .ok (.iconst 0, 1))) ∧ ((decode cX11_readRefusal 29 = .ok (.invokevirtual 277, 3)) ∧ (decode cX11_readRefusal 32 = .ok (.aload_n 1, 1)))) ∧ (((decode cX11_readRefusal 33 = .ok (.iload_n 2, 1)) ∧ (decode cX11_readRefusal 34 = .ok (.iconst 1, 1))) ∧ ((decode cX11_readRefusal 35 = .ok (.invokevirtual 277, 3)) ∧ (decode cX11_readRefusal 38 = .ok (.aload_n 1, 1))))) := by first | decide +kernel | ((repeat' apply And.intro) <;> decide +kernel)
theorem dX11_readRefusal_16 : decode cX11_readRefusal 16 = .ok (.iload_n 2, 1) := dB_36_4_1.1.1.1.1
theorem dX11_readRefusal_17 : decode cX11_readRefusal 17 = .ok (.iaload, 1) := dB_36_4_1.1.1.1.2
theorem dX11_readRefusal_18 : decode cX11_readRefusal 18 = .ok (.iconst 5, 1) := dB_36_4_1.1.1.2.1
theorem dX11_readRefusal_19 : decode cX11_readRefusal 19 = .ok (.if_icmp .ge 6, 3) := dB_36_4_1.1.1.2.2
theorem dX11_readRefusal_22 : decode cX11_readRefusal 22 = .ok (.bipush (-12), 2) := dB_36_4_1.1.2.1.1
theorem dX11_readRefusal_24 : decode cX11_readRefusal 24 = .ok (.ireturn, 1) := dB_36_4_1.1.2.1.2
theorem dX11_readRefusal_25 : decode cX11_readRefusal 25 = .ok (.aload_n 0, 1) := dB_36_4_1.1.2.2.1
theorem dX11_readRefusal_26 : decode cX11_readRefusal 26 = .ok (.aload_n 1, 1) := dB_36_4_1.1.2.2.2
theorem dX11_readRefusal_27 : decode cX11_readRefusal 27 = .ok (.iload_n 2, 1) := dB_36_4_1.2.1.1.1
theorem dX11_readRefusal_28 : decode cX11_readRefusal 28 = .ok (.iconst 0, 1) := dB_36_4_1.2.1.1.2
theorem dX11_readRefusal_29 : decode cX11_readRefusal 29 = .ok (.invokevirtual 277, 3) := dB_36_4_1.2.1.2.1
theorem dX11_readRefusal_32 : decode cX11_readRefusal 32 = .ok (.aload_n 1, 1) := dB_36_4_1.2.1.2.2
theorem dX11_readRefusal_33 : decode cX11_readRefusal 33 = .ok (.iload_n 2, 1) := dB_36_4_1.2.2.1.1
theorem dX11_readRefusal_34 : decode cX11_readRefusal 34 = .ok (.iconst 1, 1) := dB_36_4_1.2.2.1.2
theorem dX11_readRefusal_35 : decode cX11_readRefusal 35 = .ok (.invokevirtual 277, 3) := dB_36_4_1.2.2.2.1
theorem dX11_readRefusal_38 : decode cX11_readRefusal 38 = .ok (.aload_n 1, 1) := dB_36_4_1.2.2.2.2
theorem dB_36_4_2 : ((((decode cX11_readRefusal 39 = .ok (.iload_n 2, 1)) ∧ (decode cX11_readRefusal 40 = .ok (.iconst 2, 1))) ∧ ((decode cX11_readRefusal 41 = .ok (.invokevirtual 277, 3)) ∧ (decode cX11_readRefusal 44 = .ok (.aload_n 1, 1)))) ∧ (((decode cX11_readRefusal 45 = .ok (.iload_n 2, 1)) ∧ (decode cX11_readRefusal 46 = .ok (.iconst 3, 1))) ∧ ((decode cX11_readRefusal 47 = .ok (.invokevirtual 277, 3)) ∧ (decode cX11_readRefusal 50 = .ok (.aload_n 1, 1))))) ∧ ((((decode cX11_readRefusal 51 = .ok (.iload_n 2, 1)) ∧ (decode cX11_readRefusal 52 = .ok (.iconst 4, 1))) ∧ ((decode cX11_readRefusal 53 = .ok (.invokevirtual 277, 3)) ∧ (decode cX11_readRefusal 56 = .ok (.invokevirtual 100, 3)))) ∧ (((decode cX11_readRefusal 59 = .ok (.ireturn, 1)) ∧ (decode cJ6_bitCount_0f7a4 0 = .ok (.iload_n 0, 1))) ∧ ((decode cJ6_bitCount_0f7a4 1 = .ok (.iload_n 0, 1)) ∧ (decode cJ6_bitCount_0f7a4 2 = .ok (.iconst 1, 1))))) := by first | decide +kernel | ((repeat' apply And.intro) <;> decide +kernel)
theorem dX11_readRefusal_39 : decode cX11_readRefusal 39 = .ok (.iload_n 2, 1) := dB_36_4_2.1.1.1.1
theorem dX11_readRefusal_40 : decode cX11_readRefusal 40 = .ok (.iconst 2, 1) := dB_36_4_2.1.1.1.2
theorem dX11_readRefusal_41 : decode cX11_readRefusal 41 = .ok (.invokevirtual 277, 3) := dB_36_4_2.1.1.2.1
theorem dX11_readRefusal_44 : decode cX11_readRefusal 44 = .ok (.aload_n 1, 1) := dB_36_4_2.1.1.2.2
theorem dX11_readRefusal_45 : decode cX11_readRefusal 45 = .ok (.iload_n 2, 1) := dB_36_4_2.1.2.1.1
theorem dX11_readRefusal_46 : decode cX11_readRefusal 46 = .ok (.iconst 3, 1) := dB_36_4_2.1.2.1.2
theorem dX11_readRefusal_47 : decode cX11_readRefusal 47 = .ok (.invokevirtual 277, 3) := dB_36_4_2.1.2.2.1
theorem dX11_readRefusal_50 : decode cX11_readRefusal 50 = .ok (.aload_n 1, 1) := dB_36_4_2.1.2.2.2
theorem dX11_readRefusal_51 : decode cX11_readRefusal 51 = .ok (.iload_n 2, 1) := dB_36_4_2.2.1.1.1
theorem dX11_readRefusal_52 : decode cX11_readRefusal 52 = .ok (.iconst 4, 1) := dB_36_4_2.2.1.1.2
theorem dX11_readRefusal_53 : decode cX11_readRefusal 53 = .ok (.invokevirtual 277, 3) := dB_36_4_2.2.1.2.1
theorem dX11_readRefusal_56 : decode cX11_readRefusal 56 = .ok (.invokevirtual 100, 3) := dB_36_4_2.2.1.2.2
theorem dX11_readRefusal_59 : decode cX11_readRefusal 59 = .ok (.ireturn, 1) := dB_36_4_2.2.2.1.1
theorem dJ6_bitCount_0f7a4_0 : decode cJ6_bitCount_0f7a4 0 = .ok (.iload_n 0, 1) := dB_36_4_2.2.2.1.2
theorem dJ6_bitCount_0f7a4_1 : decode cJ6_bitCount_0f7a4 1 = .ok (.iload_n 0, 1) := dB_36_4_2.2.2.2.1
theorem dJ6_bitCount_0f7a4_2 : decode cJ6_bitCount_0f7a4 2 = .ok (.iconst 1, 1) := dB_36_4_2.2.2.2.2
theorem dB_36_4_3 : ((((decode cJ6_bitCount_0f7a4 3 = .ok (.iushr, 1)) ∧ (decode cJ6_bitCount_0f7a4 4 = .ok (.ldc_w 265, 3))) ∧ ((decode cJ6_bitCount_0f7a4 7 = .ok (.iand, 1)) ∧ (decode cJ6_bitCount_0f7a4 8 = .ok (.isub, 1)))) ∧ (((decode cJ6_bitCount_0f7a4 9 = .ok (.istore_n 0, 1)) ∧ (decode cJ6_bitCount_0f7a4 10 = .ok (.iload_n 0, 1))) ∧ ((decode cJ6_bitCount_0f7a4 11 = .ok (.ldc_w 266, 3)) ∧ (decode cJ6_bitCount_0f7a4 14 = .ok (.iand, 1))))) ∧ ((((decode cJ6_bitCount_0f7a4 15 = .ok (.iload_n 0, 1)) ∧ (decode cJ6_bitCount_0f7a4 16 = .ok (.iconst 2, 1))) ∧ ((decode cJ6_bitCount_0f7a4 17 = .ok (.iushr, 1)) ∧ (decode cJ6_bitCount_0f7a4 18 = .ok (.ldc_w 266, 3)))) ∧ (((decode cJ6_bitCount_0f7a4 21 = .ok (.iand, 1)) ∧ (decode cJ6_bitCount_0f7a4 22 = .ok (.iadd, 1))) ∧ ((decode cJ6_bitCount_0f7a4 23 = .ok (.istore_n 0, 1)) ∧ (decode cJ6_bitCount_0f7a4 24 = .ok (.iload_n 0, 1))))) := by first | decide +kernel | ((repeat' apply And.intro) <;> decide +kernel)
theorem dJ6_bitCount_0f7a4_3 : decode cJ6_bitCount_0f7a4 3 = .ok (.iushr, 1) := dB_36_4_3.1.1.1.1
theorem dJ6_bitCount_0f7a4_4 : decode cJ6_bitCount_0f7a4 4 = .ok (.ldc_w 265, 3) := dB_36_4_3.1.1.1.2
theorem dJ6_bitCount_0f7a4_7 : decode cJ6_bitCount_0f7a4 7 = .ok (.iand, 1) := dB_36_4_3.1.1.2.1
theorem dJ6_bitCount_0f7a4_8 : decode cJ6_bitCount_0f7a4 8 = .ok (.isub, 1) := dB_36_4_3.1.1.2.2
theorem dJ6_bitCount_0f7a4_9 : decode cJ6_bitCount_0f7a4 9 = .ok (.istore_n 0, 1) := dB_36_4_3.1.2.1.1
theorem dJ6_bitCount_0f7a4_10 : decode cJ6_bitCount_0f7a4 10 = .ok (.iload_n 0, 1) := dB_36_4_3.1.2.1.2
theorem dJ6_bitCount_0f7a4_11 : decode cJ6_bitCount_0f7a4 11 = .ok (.ldc_w 266, 3) := dB_36_4_3.1.2.2.1
theorem dJ6_bitCount_0f7a4_14 : decode cJ6_bitCount_0f7a4 14 = .ok (.iand, 1) := dB_36_4_3.1.2.2.2
theorem dJ6_bitCount_0f7a4_15 : decode cJ6_bitCount_0f7a4 15 = .ok (.iload_n 0, 1) := dB_36_4_3.2.1.1.1
theorem dJ6_bitCount_0f7a4_16 : decode cJ6_bitCount_0f7a4 16 = .ok (.iconst 2, 1) := dB_36_4_3.2.1.1.2
theorem dJ6_bitCount_0f7a4_17 : decode cJ6_bitCount_0f7a4 17 = .ok (.iushr, 1) := dB_36_4_3.2.1.2.1
theorem dJ6_bitCount_0f7a4_18 : decode cJ6_bitCount_0f7a4 18 = .ok (.ldc_w 266, 3) := dB_36_4_3.2.1.2.2
theorem dJ6_bitCount_0f7a4_21 : decode cJ6_bitCount_0f7a4 21 = .ok (.iand, 1) := dB_36_4_3.2.2.1.1
theorem dJ6_bitCount_0f7a4_22 : decode cJ6_bitCount_0f7a4 22 = .ok (.iadd, 1) := dB_36_4_3.2.2.1.2
theorem dJ6_bitCount_0f7a4_23 : decode cJ6_bitCount_0f7a4 23 = .ok (.istore_n 0, 1) := dB_36_4_3.2.2.2.1
theorem dJ6_bitCount_0f7a4_24 : decode cJ6_bitCount_0f7a4 24 = .ok (.iload_n 0, 1) := dB_36_4_3.2.2.2.2
theorem dB_36_4_4 : ((((decode cJ6_bitCount_0f7a4 25 = .ok (.iload_n 0, 1)) ∧ (decode cJ6_bitCount_0f7a4 26 = .ok (.iconst 4, 1))) ∧ ((decode cJ6_bitCount_0f7a4 27 = .ok (.iushr, 1)) ∧ (decode cJ6_bitCount_0f7a4 28 = .ok (.iadd, 1)))) ∧ (((decode cJ6_bitCount_0f7a4 29 = .ok (.ldc_w 267, 3)) ∧ (decode cJ6_bitCount_0f7a4 32 = .ok (.iand, 1))) ∧ ((decode cJ6_bitCount_0f7a4 33 = .ok (.istore_n 0, 1)) ∧ (decode cJ6_bitCount_0f7a4 34 = .ok (.iload_n 0, 1))))) ∧ ((((decode cJ6_bitCount_0f7a4 35 = .ok (.iload_n 0, 1)) ∧ (decode cJ6_bitCount_0f7a4 36 = .ok (.bipush 8, 2))) ∧ ((decode cJ6_bitCount_0f7a4 38 = .ok (.iushr, 1)) ∧ (decode cJ6_bitCount_0f7a4 39 = .ok (.iadd, 1)))) ∧ (((decode cJ6_bitCount_0f7a4 40 = .ok (.istore_n 0, 1)) ∧ (decode cJ6_bitCount_0f7a4 41 = .ok (.iload_n 0, 1))) ∧ ((decode cJ6_bitCount_0f7a4 42 = .ok (.iload_n 0, 1)) ∧ (decode cJ6_bitCount_0f7a4 43 = .ok (.bipush 16, 2))))) := by first | decide +kernel | ((repeat' apply And.intro) <;> decide +kernel)
theorem dJ6_bitCount_0f7a4_25 : decode cJ6_bitCount_0f7a4 25 = .ok (.iload_n 0, 1) := dB_36_4_4.1.1.1.1
theorem dJ6_bitCount_0f7a4_26 : decode cJ6_bitCount_0f7a4 26 = .ok (.iconst 4, 1) := dB_36_4_4.1.1.1.2
theorem dJ6_bitCount_0f7a4_27 : decode cJ6_bitCount_0f7a4 27 = .ok (.iushr, 1) := dB_36_4_4.1.1.2.1
theorem dJ6_bitCount_0f7a4_28 : decode cJ6_bitCount_0f7a4 28 = .ok (.iadd, 1) := dB_36_4_4.1.1.2.2
theorem dJ6_bitCount_0f7a4_29 : decode cJ6_bitCount_0f7a4 29 = .ok (.ldc_w 267, 3) := dB_36_4_4.1.2.1.1
theorem dJ6_bitCount_0f7a4_32 : decode cJ6_bitCount_0f7a4 32 = .ok (.iand, 1) := dB_36_4_4.1.2.1.2
theorem dJ6_bitCount_0f7a4_33 : decode cJ6_bitCount_0f7a4 33 = .ok (.istore_n 0, 1) := dB_36_4_4.1.2.2.1
theorem dJ6_bitCount_0f7a4_34 : decode cJ6_bitCount_0f7a4 34 = .ok (.iload_n 0, 1) := dB_36_4_4.1.2.2.2
theorem dJ6_bitCount_0f7a4_35 : decode cJ6_bitCount_0f7a4 35 = .ok (.iload_n 0, 1) := dB_36_4_4.2.1.1.1
theorem dJ6_bitCount_0f7a4_36 : decode cJ6_bitCount_0f7a4 36 = .ok (.bipush 8, 2) := dB_36_4_4.2.1.1.2
theorem dJ6_bitCount_0f7a4_38 : decode cJ6_bitCount_0f7a4 38 = .ok (.iushr, 1) := dB_36_4_4.2.1.2.1
theorem dJ6_bitCount_0f7a4_39 : decode cJ6_bitCount_0f7a4 39 = .ok (.iadd, 1) := dB_36_4_4.2.1.2.2
theorem dJ6_bitCount_0f7a4_40 : decode cJ6_bitCount_0f7a4 40 = .ok (.istore_n 0, 1) := dB_36_4_4.2.2.1.1
theorem dJ6_bitCount_0f7a4_41 : decode cJ6_bitCount_0f7a4 41 = .ok (.iload_n 0, 1) := dB_36_4_4.2.2.1.2
theorem dJ6_bitCount_0f7a4_42 : decode cJ6_bitCount_0f7a4 42 = .ok (.iload_n 0, 1) := dB_36_4_4.2.2.2.1
theorem dJ6_bitCount_0f7a4_43 : decode cJ6_bitCount_0f7a4 43 = .ok (.bipush 16, 2) := dB_36_4_4.2.2.2.2
theorem dB_36_4_5 : ((((decode cJ6_bitCount_0f7a4 45 = .ok (.iushr, 1)) ∧ (decode cJ6_bitCount_0f7a4 46 = .ok (.iadd, 1))) ∧ ((decode cJ6_bitCount_0f7a4 47 = .ok (.istore_n 0, 1)) ∧ (decode cJ6_bitCount_0f7a4 48 = .ok (.iload_n 0, 1)))) ∧ (((decode cJ6_bitCount_0f7a4 49 = .ok (.bipush 63, 2)) ∧ (decode cJ6_bitCount_0f7a4 51 = .ok (.iand, 1))) ∧ ((decode cJ6_bitCount_0f7a4 52 = .ok (.ireturn, 1)) ∧ (decode cJ7_fill_53178 0 = .ok (.iconst 0, 1))))) ∧ ((((decode cJ7_fill_53178 1 = .ok (.istore_n 2, 1)) ∧ (decode cJ7_fill_53178 2 = .ok (.aload_n 0, 1))) ∧ ((decode cJ7_fill_53178 3 = .ok (.arraylength, 1)) ∧ (decode cJ7_fill_53178 4 = .ok (.istore_n 3, 1)))) ∧ (((decode cJ7_fill_53178 5 = .ok (.iload_n 2, 1)) ∧ (decode cJ7_fill_53178 6 = .ok (.iload_n 3, 1))) ∧ ((decode cJ7_fill_53178 7 = .ok (.if_icmp .ge 13, 3)) ∧ (decode cJ7_fill_53178 10 = .ok (.aload_n 0, 1))))) := by first | decide +kernel | ((repeat' apply And.intro) <;> decide +kernel)
theorem dJ6_bitCount_0f7a4_45 : decode cJ6_bitCount_0f7a4 45 = .ok (.iushr, 1) := dB_36_4_5.1.1.1.1
theorem dJ6_bitCount_0f7a4_46 : decode cJ6_bitCount_0f7a4 46 = .ok (.iadd, 1) := dB_36_4_5.1.1.1.2
theorem dJ6_bitCount_0f7a4_47 : decode cJ6_bitCount_0f7a4 47 = .ok (.istore_n 0, 1) := dB_36_4_5.1.1.2.1
theorem dJ6_bitCount_0f7a4_48 : decode cJ6_bitCount_0f7a4 48 = .ok (.iload_n 0, 1) := dB_36_4_5.1.1.2.2
theorem dJ6_bitCount_0f7a4_49 : decode cJ6_bitCount_0f7a4 49 = .ok (.bipush 63, 2) := dB_36_4_5.1.2.1.1
theorem dJ6_bitCount_0f7a4_51 : decode cJ6_bitCount_0f7a4 51 = .ok (.iand, 1) := dB_36_4_5.1.2.1.2
theorem dJ6_bitCount_0f7a4_52 : decode cJ6_bitCount_0f7a4 52 = .ok (.ireturn, 1) := dB_36_4_5.1.2.2.1
theorem dJ7_fill_53178_0 : decode cJ7_fill_53178 0 = .ok (.iconst 0, 1) := dB_36_4_5.1.2.2.2
theorem dJ7_fill_53178_1 : decode cJ7_fill_53178 1 = .ok (.istore_n 2, 1) := dB_36_4_5.2.1.1.1
theorem dJ7_fill_53178_2 : decode cJ7_fill_53178 2 = .ok (.aload_n 0, 1) := dB_36_4_5.2.1.1.2
theorem dJ7_fill_53178_3 : decode cJ7_fill_53178 3 = .ok (.arraylength, 1) := dB_36_4_5.2.1.2.1
theorem dJ7_fill_53178_4 : decode cJ7_fill_53178 4 = .ok (.istore_n 3, 1) := dB_36_4_5.2.1.2.2
theorem dJ7_fill_53178_5 : decode cJ7_fill_53178 5 = .ok (.iload_n 2, 1) := dB_36_4_5.2.2.1.1
theorem dJ7_fill_53178_6 : decode cJ7_fill_53178 6 = .ok (.iload_n 3, 1) := dB_36_4_5.2.2.1.2
theorem dJ7_fill_53178_7 : decode cJ7_fill_53178 7 = .ok (.if_icmp .ge 13, 3) := dB_36_4_5.2.2.2.1
theorem dJ7_fill_53178_10 : decode cJ7_fill_53178 10 = .ok (.aload_n 0, 1) := dB_36_4_5.2.2.2.2
theorem dB_36_4_6 : ((decode cJ7_fill_53178 11 = .ok (.iload_n 2, 1)) ∧ ((decode cJ7_fill_53178 12 = .ok (.iload_n 1, 1)) ∧ (decode cJ7_fill_53178 13 = .ok (.iastore, 1)))) ∧ ((decode cJ7_fill_53178 14 = .ok (.iinc 2 1, 3)) ∧ ((decode cJ7_fill_53178 17 = .ok (.goto (-12), 3)) ∧ (decode cJ7_fill_53178 20 = .ok (.return_, 1)))) := by first | decide +kernel | ((repeat' apply And.intro) <;> decide +kernel)
theorem dJ7_fill_53178_11 : decode cJ7_fill_53178 11 = .ok (.iload_n 2, 1) := dB_36_4_6.1.1
theorem dJ7_fill_53178_12 : decode cJ7_fill_53178 12 = .ok (.iload_n 1, 1) := dB_36_4_6.1.2.1
theorem dJ7_fill_53178_13 : decode cJ7_fill_53178 13 = .ok (.iastore, 1) := dB_36_4_6.1.2.2
theorem dJ7_fill_53178_14 : decode cJ7_fill_53178 14 = .ok (.iinc 2 1, 3) := dB_36_4_6.2.1
theorem dJ7_fill_53178_17 : decode cJ7_fill_53178 17 = .ok (.goto (-12), 3) := dB_36_4_6.2.2.1
theorem dJ7_fill_53178_20 : decode cJ7_fill_53178 20 = .ok (.return_, 1) := dB_36_4_6.2.2.2
end

section
/-- what a line lets, as a number; b: from its first end -/
noncomputable def rmI (k w b : Int32) : Int := if ml_lets k w b = (-5) then 1000000 else (ml_lets k w b).toInt
theorem lets_rng {k w b : Int32} (h0 : 0 ≤ w.toInt) (h1 : w.toInt ≤ 2000) : ml_lets k w b = (-5) ∨ (0 ≤ (ml_lets k w b).toInt ∧ (ml_lets k w b).toInt ≤ 2000) := by
  have z0 : (0 : Int32).toInt = 0 := by decide
  unfold ml_lets
  by_cases h : k = 2
  · rw [if_pos h]
    exact Or.inl rfl
  · rw [if_neg h]
    by_cases h2 : k = 1 ∧ b = 0
    · rw [if_pos h2]
      exact Or.inr ⟨by omega, by omega⟩
    · rw [if_neg h2]
      exact Or.inr ⟨h0, h1⟩
theorem rmI_rng {k w b : Int32} (h0 : 0 ≤ w.toInt) (h1 : w.toInt ≤ 2000) : 0 ≤ rmI k w b ∧ rmI k w b ≤ 1000000 := by
  unfold rmI
  rcases lets_rng (k := k) (b := b) h0 h1 with h | h
  · rw [if_pos h]
    omega
  · by_cases e : ml_lets k w b = (-5)
    · rw [if_pos e]
      omega
    · rw [if_neg e]
      omega
theorem room_I {r k w b l z : Int32} (e : r = ml_room k w b l z) (hl : 0 ≤ l.toInt) (hz : z.toInt = -9) (hw : 0 ≤ w.toInt ∧ w.toInt ≤ 2000) : r.toInt = rmI k w b ∧ 0 ≤ r.toInt ∧ r.toInt ≤ 1000000 := by
  have hne : ¬ (l = z ∧ ¬ (k = 1 ∧ b = 0)) := fun h => by
    have := congrArg Int32.toInt h.1
    omega
  have hR := rmI_rng (k := k) (b := b) hw.1 hw.2
  have e1 : r.toInt = rmI k w b := by
    rw [e]
    unfold ml_room rmI
    by_cases h : ml_lets k w b = (-5)
    · rw [if_pos h, if_pos h]
      decide
    · rw [if_neg h, if_neg h, if_neg hne]
  exact ⟨e1, by omega, by omega⟩
/-- every line carries no more than it lets -/
noncomputable def flOK (f5 f8 f22 : Nat → Int32) : Prop := ∀ j : Nat, j < 40 → -(rmI (f5 j) (f8 j) 0) ≤ (f22 j).toInt ∧ (f22 j).toInt ≤ rmI (f5 j) (f8 j) 1
/-- what line j lets more from x to y -/
noncomputable def lfI (f5 f6 f7 f8 f10 f22 : Nat → Int32) (x y : Int) (j : Nat) : Int := if (f10 j).toInt ≠ 0 then 0 else if (f6 j).toInt = x ∧ (f7 j).toInt = y then rmI (f5 j) (f8 j) 1 - (f22 j).toInt else if (f6 j).toInt = y ∧ (f7 j).toInt = x then rmI (f5 j) (f8 j) 0 + (f22 j).toInt else 0
theorem lfI_rng {f5 f6 f7 f8 f10 f22 : Nat → Int32} (h : flOK f5 f8 f22) (hr : rng f8 40 0 2000) {j : Nat} (hj : j < 40) (x y : Int) : 0 ≤ lfI f5 f6 f7 f8 f10 f22 x y j ∧ lfI f5 f6 f7 f8 f10 f22 x y j ≤ 2000000 := by
  have a := h j hj
  have b := hr j hj
  have c1 := rmI_rng (k := f5 j) (b := 1) b.1 b.2
  have c0 := rmI_rng (k := f5 j) (b := 0) b.1 b.2
  unfold lfI
  (repeat' split) <;> omega
noncomputable def sumI (g : Nat → Int) : Nat → Int
  | 0 => 0
  | n + 1 => sumI g n + g n
theorem sum_st {g : Nat → Int} {i i2 : Int32} {a a2 r : Int} (h : a = sumI g i.toNatClampNeg) (hr : r = g i.toNatClampNeg) (hi : 0 ≤ i.toInt) (e : a2 = a + r) (ei : i2.toInt = i.toInt + 1) : a2 = sumI g i2.toNatClampNeg := by
  have e2 : i2.toNatClampNeg = i.toNatClampNeg + 1 := by
    have x1 := clI (i := i) hi
    have x2 := clI (i := i2) (by omega)
    omega
  rw [e2]
  show a2 = sumI g i.toNatClampNeg + g i.toNatClampNeg
  rw [← h, ← hr, e]

set_option maxHeartbeats 4000000 in
set_option maxRecDepth 100000 in
theorem c_X12_left (l : Launch) (D : va_G) (cy : Nat → ClassId) (sz : Nat) (mo : Nat) (g5 : Nat) (g6 : Nat) (g7 : Nat) (g8 : Nat) (g9 : Nat) (g10 : Nat) (g12 : Nat) (g13 : Nat) (g14 : Nat) (g15 : Nat) (g16 : Nat) (g17 : Nat) (g18 : Nat) (g19 : Nat) (g20 : Nat) (g22 : Nat) (g23 : Nat) (g24 : Nat) (g29 : Nat) (g30 : Nat) (g31 : Nat) (g32 : Nat) (g33 : Nat) (s0 : Int32) (s1 : Int32) (s3 : Int32) (s4 : Int32) (s11 : Int32) (s21 : Int32) (s25 : Int32) (s26 : Int32) (s27 : Int32) (s28 : Int32) (t2 : Int64) (f5 : Nat → Int32) (f6 : Nat → Int32) (f7 : Nat → Int32) (f8 : Nat → Int32) (f10 : Nat → Int32) (f22 : Nat → Int32) (a1 : Int32) (a2 : Int32) (a3 : Int32) (q1 : 0 ≤ a1.toInt ∧ a1.toInt < 40) (h21 : s21.toInt = -9) (hfl : flOK f5 f8 f22) (r_f8 : rng f8 40 (0) (2000)) : Met l yX12_left wsX12_left ({ frames := 2, cells := 0, slots := 0, locals := 46 }) (va_Pc [.ref mo, .int a1, .int a2, .int a3] (fun U => U.heap.size = sz ∧ va_P D vwCl [(mo, .inr (12, [.int s0, .int s1, .long t2, .int s3, .int s4, .ref g5, .ref g6, .ref g7, .ref g8, .ref g9, .ref g10, .int s11, .ref g12, .ref g13, .ref g14, .ref g15, .ref g16, .ref g17, .ref g18, .ref g19, .ref g20, .int s21, .ref g22, .ref g23, .ref g24, .int s25, .int s26, .int s27, .int s28, .ref g29, .ref g30, .ref g31, .ref g32, .ref g33])), (g5, .inl (cy 0, 40, .inl f5)), (g6, .inl (cy 0, 40, .inl f6)), (g7, .inl (cy 0, 40, .inl f7)), (g8, .inl (cy 0, 40, .inl f8)), (g10, .inl (cy 2, 40, .inl f10)), (g22, .inl (cy 0, 40, .inl f22))] U.heap ∧ kk_ D cy U ∧ va_D (fun _ => True) [(mo, .inr (12, [.int s0, .int s1, .long t2, .int s3, .int s4, .ref g5, .ref g6, .ref g7, .ref g8, .ref g9, .ref g10, .int s11, .ref g12, .ref g13, .ref g14, .ref g15, .ref g16, .ref g17, .ref g18, .ref g19, .ref g20, .int s21, .ref g22, .ref g23, .ref g24, .int s25, .int s26, .int s27, .int s28, .ref g29, .ref g30, .ref g31, .ref g32, .ref g33])), (g5, .inl (cy 0, 40, .inl f5)), (g6, .inl (cy 0, 40, .inl f6)), (g7, .inl (cy 0, 40, .inl f7)), (g8, .inl (cy 0, 40, .inl f8)), (g10, .inl (cy 2, 40, .inl f10)), (g22, .inl (cy 0, 40, .inl f22))])) (va_Qi (fun (r : Int32) (_ : Unit) => (r.toInt = lfI f5 f6 f7 f8 f10 f22 a2.toInt a3.toInt a1.toNatClampNeg)) (fun (_ : Unit) (_ : State) => True) (va_A [] sz)) 0 0 (va_A [] sz) := by
  refine ofQ (cc := cX12_left) (maxL := 4) (ret := (some .int)) (by decide) rfl ?_
  intro p e s m args below meth c s₁ Q hQ B hml hv
  obtain ⟨rfl, hsz, hP, hK, hD0⟩ := hv
  have hx := B.exec
  have hb := B.bytes
  have hr := B.returns
  have hts := atoms_spec (ws := wsX12_left) B.pre
  have hown : s.vm.findClass RX12 = some m.cls := by have h_ := findClass_of_methodNamed B.named; exact h_
  have hlocks := B.notSynchronized
  subst hsz
  have hD : va_D (va_A [] s.heap.size) [] := dd_nil
  generalize hAe : va_A [] s.heap.size = A at hD hQ
  have hA : ∀ q : Nat, s.heap.size ≤ q → A q := fun q h => by rw [← hAe]; exact Or.inr h
  have hS : va_S A s.heap s.heap [] := va_S.rf
  have hl := lv_entry ([.ref mo, .int a1, .int a2, .int a3]) (n := 4) (Nat.le_of_ble_eq_true rfl)
  rw [lg_entry_eq]
  generalize (lg_sl ([.ref mo, .int a1, .int a2, .int a3]) ++ List.replicate (4 - (lg_sl ([.ref mo, .int a1, .int a2, .int a3])).length) Slot.unset).toArray = ls at hl ⊢
  have hl : lv_has ls 4 [(0, .ref mo), (1, .int a1), (2, .int a2), (3, .int a3)] := hl
  have z0 : (0 : Int32).toInt = 0 := by decide
  have z1 : (1 : Int32).toInt = 1 := by decide
  have hv : vp_in a1 40 := in_I (by omega) (by omega)
  have fl := hfl _ (in_lt hv)
  have fw := r_f8 _ (in_lt hv)
  have w1 := rmI_rng (k := f5 a1.toNatClampNeg) (b := 1) fw.1 fw.2
  have w0 := rmI_rng (k := f5 a1.toNatClampNeg) (b := 0) fw.1 fw.2
  refine lv_aload_n hx hb dX12_left_0 rfl (lv_at hl 0 rfl) ?_
  refine va_get (ci := 12) (v := .ref g10) (C := RX12) (T := TX12) (N := 34) hx hb hts (fun _ h => List.mem_cons_of_mem _ (List.mem_append_right _ h)) hown hK.1 hP 0 rfl rfl 10 (by decide) (hts (.fieldLink RX12 25 "CutAtlasModel" "isMissing" "[Z") (by decide +kernel)) (fun _ h9 => h9) rfl dX12_left_1 ?_
  refine lv_iload_n hx hb dX12_left_4 rfl (lv_at hl 1 rfl) ?_
  have h_1 : vp_in a1 40 := in_I (by omega) (by omega)
  refine va_zald hx hb hK.1 hP 5 2 rfl rfl (i := a1) h_1 dX12_left_5 ?_
  refine lv_topi (fun y_2 ey_2 => ?_)
  have ky_2 : y_2.toInt = (f10 a1.toNatClampNeg).toInt := by rw [ey_2]
  refine lv_if_eq (tgt := 11) hx hb dX12_left_6 (by decide) (fun c_3 => ?_) (fun c_3 => ?_)
  · have t_3 : y_2.toInt = (0 : Int32).toInt := congrArg Int32.toInt c_3
    refine lv_aload_n hx hb dX12_left_11 rfl (lv_at hl 0 rfl) ?_
    refine va_get (ci := 12) (v := .ref g6) (C := RX12) (T := TX12) (N := 34) hx hb hts (fun _ h => List.mem_cons_of_mem _ (List.mem_append_right _ h)) hown hK.1 hP 0 rfl rfl 6 (by decide) (hts (.fieldLink RX12 13 "CutAtlasModel" "from" "[I") (by decide +kernel)) (fun _ h9 => h9) rfl dX12_left_12 ?_
    refine lv_iload_n hx hb dX12_left_15 rfl (lv_at hl 1 rfl) ?_
    have h_4 : vp_in a1 40 := in_I (by omega) (by omega)
    refine va_iald hx hb hK.1 hP 2 0 rfl rfl (i := a1) h_4 dX12_left_16 ?_
    refine lv_topi (fun y_5 ey_5 => ?_)
    have ky_5 : y_5.toInt = (f6 a1.toNatClampNeg).toInt := by rw [ey_5]
    refine lv_iload_n hx hb dX12_left_17 rfl (lv_at hl 2 rfl) ?_
    refine lv_icmp_ne (tgt := 47) hx hb dX12_left_18 (by decide) (fun c_6 => ?_) (fun c_6 => ?_)
    · have t_6 : ¬ y_5.toInt = a2.toInt := fun h => c_6 (Int32.toInt_inj.mp h)
      refine lv_aload_n hx hb dX12_left_47 rfl (lv_at hl 0 rfl) ?_
      refine va_get (ci := 12) (v := .ref g6) (C := RX12) (T := TX12) (N := 34) hx hb hts (fun _ h => List.mem_cons_of_mem _ (List.mem_append_right _ h)) hown hK.1 hP 0 rfl rfl 6 (by decide) (hts (.fieldLink RX12 13 "CutAtlasModel" "from" "[I") (by decide +kernel)) (fun _ h9 => h9) rfl dX12_left_48 ?_
      refine lv_iload_n hx hb dX12_left_51 rfl (lv_at hl 1 rfl) ?_
      have h_7 : vp_in a1 40 := in_I (by omega) (by omega)
      refine va_iald hx hb hK.1 hP 2 0 rfl rfl (i := a1) h_7 dX12_left_52 ?_
      refine lv_topi (fun y_8 ey_8 => ?_)
      have e_ := (ey_8.trans ey_5.symm).symm
      subst e_
      skip
      refine lv_iload_n hx hb dX12_left_53 rfl (lv_at hl 3 rfl) ?_
      refine lv_icmp_ne (tgt := 83) hx hb dX12_left_54 (by decide) (fun c_9 => ?_) (fun c_9 => ?_)
      · have t_9 : ¬ y_5.toInt = a3.toInt := fun h => c_9 (Int32.toInt_inj.mp h)
        refine lv_iconst (v := 0) hx hb dX12_left_83 (by decide) ?_
        rw [hQ]
        exact W.iret (v := 0) hx hb hr (fun t ht hW => ⟨⟨0, (), rfl, (by unfold lfI; (repeat' split) <;> omega), trivial⟩, hS.F ht⟩) hS.2.2 dX12_left_84
      · have t_9 : y_5.toInt = a3.toInt := congrArg Int32.toInt c_9
        refine lv_aload_n hx hb dX12_left_57 rfl (lv_at hl 0 rfl) ?_
        refine va_get (ci := 12) (v := .ref g7) (C := RX12) (T := TX12) (N := 34) hx hb hts (fun _ h => List.mem_cons_of_mem _ (List.mem_append_right _ h)) hown hK.1 hP 0 rfl rfl 7 (by decide) (hts (.fieldLink RX12 16 "CutAtlasModel" "to" "[I") (by decide +kernel)) (fun _ h9 => h9) rfl dX12_left_58 ?_
        refine lv_iload_n hx hb dX12_left_61 rfl (lv_at hl 1 rfl) ?_
        have h_10 : vp_in a1 40 := in_I (by omega) (by omega)
        refine va_iald hx hb hK.1 hP 3 0 rfl rfl (i := a1) h_10 dX12_left_62 ?_
        refine lv_topi (fun y_11 ey_11 => ?_)
        have ky_11 : y_11.toInt = (f7 a1.toNatClampNeg).toInt := by rw [ey_11]
        refine lv_iload_n hx hb dX12_left_63 rfl (lv_at hl 2 rfl) ?_
        refine lv_icmp_ne (tgt := 83) hx hb dX12_left_64 (by decide) (fun c_12 => ?_) (fun c_12 => ?_)
        · have t_12 : ¬ y_11.toInt = a2.toInt := fun h => c_12 (Int32.toInt_inj.mp h)
          refine lv_iconst (v := 0) hx hb dX12_left_83 (by decide) ?_
          rw [hQ]
          exact W.iret (v := 0) hx hb hr (fun t ht hW => ⟨⟨0, (), rfl, (by unfold lfI; (repeat' split) <;> omega), trivial⟩, hS.F ht⟩) hS.2.2 dX12_left_84
        · have t_12 : y_11.toInt = a2.toInt := congrArg Int32.toInt c_12
          refine lv_aload_n hx hb dX12_left_67 rfl (lv_at hl 0 rfl) ?_
          refine lv_iload_n hx hb dX12_left_68 rfl (lv_at hl 1 rfl) ?_
          refine lv_iconst (v := 0) hx hb dX12_left_69 (by decide) ?_
          refine ct_R hP hD0 [(mo, .inr (12, [.int s0, .int s1, .long t2, .int s3, .int s4, .ref g5, .ref g6, .ref g7, .ref g8, .ref g9, .ref g10, .int s11, .ref g12, .ref g13, .ref g14, .ref g15, .ref g16, .ref g17, .ref g18, .ref g19, .ref g20, .int s21, .ref g22, .ref g23, .ref g24, .int s25, .int s26, .int s27, .int s28, .ref g29, .ref g30, .ref g31, .ref g32, .ref g33])), (g5, .inl (cy 0, 40, .inl f5)), (g8, .inl (cy 0, 40, .inl f8))] [0, 1, 4] (by decide) rfl (fun hPc hDw => ?_)
          have hFc := va_free (wc := []) hD hS hA [] rfl
          refine va_calli (va_runV (As := [.int a1, .int 0]) (rest := []) ⟨hx, hb, hml, hown, hts⟩ (c_X12_room l D cy s.heap.size mo g5 g6 g7 g8 g9 g10 g12 g13 g14 g15 g16 g17 g18 g19 g20 g22 g23 g24 g29 g30 g31 g32 g33 s0 s1 s3 s4 s11 s21 s25 s26 s27 s28 t2 f5 f8 a1 (0 : Int32) (by first | with_reducible assumption | omega | assumption)) (cwV 2 hts gX12_left_X12_room rfl rfl rfl (by decide +kernel) ⟨Nat.le_of_ble_eq_true rfl, Nat.le_of_ble_eq_true rfl⟩) ⟨bl_, va_recvX hK.1 hP (ci := 12) (q0 := 0) rfl rfl, fun U hU hW => ⟨rfl, by rw [hU], by rw [hU]; exact hPc, kk_mv hW hK, hDw⟩⟩ rfl rfl hl.1 rfl (lv_room (Nat.le_of_ble_eq_true rfl)) dX12_left_70 ⟨Nat.le_of_ble_eq_true rfl, Nat.le_of_ble_eq_true rfl⟩) hS (fun q _ h => hFc q h) hFc (fun r_13 u t H locs ht hvm hw hB hz1 hk1 hS => ?_)
          have hP : va_P D vwCl _ H := ro_keep hP hk1
          have f0_r_13 := hw
          have rI_2 := room_I (r := r_13) (by assumption) (by omega) (by omega) (r_f8 _ (in_lt (in_I (by omega) (by omega))))
          refine lv_aload_n hx hb dX12_left_73 rfl (lv_at hl 0 rfl) ?_
          refine va_get (ci := 12) (v := .ref g22) (C := RX12) (T := TX12) (N := 34) hx hb hts (fun _ h => List.mem_cons_of_mem _ (List.mem_append_right _ h)) hown hK.1 hP 0 rfl rfl 22 (by decide) (hts (.fieldLink RX12 61 "CutAtlasModel" "flows" "[I") (by decide +kernel)) (fun _ h9 => h9) rfl dX12_left_74 ?_
          refine lv_iload_n hx hb dX12_left_77 rfl (lv_at hl 1 rfl) ?_
          have h_14 : vp_in a1 40 := in_I (by omega) (by omega)
          refine va_iald hx hb hK.1 hP 6 0 rfl rfl (i := a1) h_14 dX12_left_78 ?_
          refine lv_topi (fun y_15 ey_15 => ?_)
          have ky_15 : y_15.toInt = (f22 a1.toNatClampNeg).toInt := by rw [ey_15]
          refine lv_iadd hx hb dX12_left_79 ?_
          refine lv_topi (fun y_16 ey_16 => ?_)
          have ty_16 : y_16.toInt = r_13.toInt + y_15.toInt := by rw [ey_16]; exact addI (by omega) (by omega)
          refine lv_goto (tgt := 84) hx hb dX12_left_80 (by decide) ?_
          rw [hQ]
          exact W.iret (v := y_16) hx hb hr (fun t ht hW => ⟨⟨y_16, (), rfl, (by unfold lfI; (repeat' split) <;> omega), trivial⟩, hS.F ht⟩) hS.2.2 dX12_left_84
    · have t_6 : y_5.toInt = a2.toInt := congrArg Int32.toInt c_6
      refine lv_aload_n hx hb dX12_left_21 rfl (lv_at hl 0 rfl) ?_
      refine va_get (ci := 12) (v := .ref g7) (C := RX12) (T := TX12) (N := 34) hx hb hts (fun _ h => List.mem_cons_of_mem _ (List.mem_append_right _ h)) hown hK.1 hP 0 rfl rfl 7 (by decide) (hts (.fieldLink RX12 16 "CutAtlasModel" "to" "[I") (by decide +kernel)) (fun _ h9 => h9) rfl dX12_left_22 ?_
      refine lv_iload_n hx hb dX12_left_25 rfl (lv_at hl 1 rfl) ?_
      have h_17 : vp_in a1 40 := in_I (by omega) (by omega)
      refine va_iald hx hb hK.1 hP 3 0 rfl rfl (i := a1) h_17 dX12_left_26 ?_
      refine lv_topi (fun y_18 ey_18 => ?_)
      have ky_18 : y_18.toInt = (f7 a1.toNatClampNeg).toInt := by rw [ey_18]
      refine lv_iload_n hx hb dX12_left_27 rfl (lv_at hl 3 rfl) ?_
      refine lv_icmp_ne (tgt := 47) hx hb dX12_left_28 (by decide) (fun c_19 => ?_) (fun c_19 => ?_)
      · have t_19 : ¬ y_18.toInt = a3.toInt := fun h => c_19 (Int32.toInt_inj.mp h)
        refine lv_aload_n hx hb dX12_left_47 rfl (lv_at hl 0 rfl) ?_
        refine va_get (ci := 12) (v := .ref g6) (C := RX12) (T := TX12) (N := 34) hx hb hts (fun _ h => List.mem_cons_of_mem _ (List.mem_append_right _ h)) hown hK.1 hP 0 rfl rfl 6 (by decide) (hts (.fieldLink RX12 13 "CutAtlasModel" "from" "[I") (by decide +kernel)) (fun _ h9 => h9) rfl dX12_left_48 ?_
        refine lv_iload_n hx hb dX12_left_51 rfl (lv_at hl 1 rfl) ?_
        have h_20 : vp_in a1 40 := in_I (by omega) (by omega)
        refine va_iald hx hb hK.1 hP 2 0 rfl rfl (i := a1) h_20 dX12_left_52 ?_
        refine lv_topi (fun y_21 ey_21 => ?_)
        have e_ := (ey_21.trans ey_5.symm).symm
        subst e_
        skip
        refine lv_iload_n hx hb dX12_left_53 rfl (lv_at hl 3 rfl) ?_
        refine lv_icmp_ne (tgt := 83) hx hb dX12_left_54 (by decide) (fun c_22 => ?_) (fun c_22 => ?_)
        · have t_22 : ¬ y_5.toInt = a3.toInt := fun h => c_22 (Int32.toInt_inj.mp h)
          refine lv_iconst (v := 0) hx hb dX12_left_83 (by decide) ?_
          rw [hQ]
          exact W.iret (v := 0) hx hb hr (fun t ht hW => ⟨⟨0, (), rfl, (by unfold lfI; (repeat' split) <;> omega), trivial⟩, hS.F ht⟩) hS.2.2 dX12_left_84
        · have t_22 : y_5.toInt = a3.toInt := congrArg Int32.toInt c_22
          refine lv_aload_n hx hb dX12_left_57 rfl (lv_at hl 0 rfl) ?_
          refine va_get (ci := 12) (v := .ref g7) (C := RX12) (T := TX12) (N := 34) hx hb hts (fun _ h => List.mem_cons_of_mem _ (List.mem_append_right _ h)) hown hK.1 hP 0 rfl rfl 7 (by decide) (hts (.fieldLink RX12 16 "CutAtlasModel" "to" "[I") (by decide +kernel)) (fun _ h9 => h9) rfl dX12_left_58 ?_
          refine lv_iload_n hx hb dX12_left_61 rfl (lv_at hl 1 rfl) ?_
          have h_23 : vp_in a1 40 := in_I (by omega) (by omega)
          refine va_iald hx hb hK.1 hP 3 0 rfl rfl (i := a1) h_23 dX12_left_62 ?_
          refine lv_topi (fun y_24 ey_24 => ?_)
          have e_ := (ey_24.trans ey_18.symm).symm
          subst e_
          skip
          refine lv_iload_n hx hb dX12_left_63 rfl (lv_at hl 2 rfl) ?_
          refine lv_icmp_ne (tgt := 83) hx hb dX12_left_64 (by decide) (fun c_25 => ?_) (fun c_25 => ?_)
          · have t_25 : ¬ y_18.toInt = a2.toInt := fun h => c_25 (Int32.toInt_inj.mp h)
            refine lv_iconst (v := 0) hx hb dX12_left_83 (by decide) ?_
            rw [hQ]
            exact W.iret (v := 0) hx hb hr (fun t ht hW => ⟨⟨0, (), rfl, (by unfold lfI; (repeat' split) <;> omega), trivial⟩, hS.F ht⟩) hS.2.2 dX12_left_84
          · have t_25 : y_18.toInt = a2.toInt := congrArg Int32.toInt c_25
            refine lv_aload_n hx hb dX12_left_67 rfl (lv_at hl 0 rfl) ?_
            refine lv_iload_n hx hb dX12_left_68 rfl (lv_at hl 1 rfl) ?_
            refine lv_iconst (v := 0) hx hb dX12_left_69 (by decide) ?_
            refine ct_R hP hD0 [(mo, .inr (12, [.int s0, .int s1, .long t2, .int s3, .int s4, .ref g5, .ref g6, .ref g7, .ref g8, .ref g9, .ref g10, .int s11, .ref g12, .ref g13, .ref g14, .ref g15, .ref g16, .ref g17, .ref g18, .ref g19, .ref g20, .int s21, .ref g22, .ref g23, .ref g24, .int s25, .int s26, .int s27, .int s28, .ref g29, .ref g30, .ref g31, .ref g32, .ref g33])), (g5, .inl (cy 0, 40, .inl f5)), (g8, .inl (cy 0, 40, .inl f8))] [0, 1, 4] (by decide) rfl (fun hPc hDw => ?_)
            have hFc := va_free (wc := []) hD hS hA [] rfl
            refine va_calli (va_runV (As := [.int a1, .int 0]) (rest := []) ⟨hx, hb, hml, hown, hts⟩ (c_X12_room l D cy s.heap.size mo g5 g6 g7 g8 g9 g10 g12 g13 g14 g15 g16 g17 g18 g19 g20 g22 g23 g24 g29 g30 g31 g32 g33 s0 s1 s3 s4 s11 s21 s25 s26 s27 s28 t2 f5 f8 a1 (0 : Int32) (by first | with_reducible assumption | omega | assumption)) (cwV 2 hts gX12_left_X12_room rfl rfl rfl (by decide +kernel) ⟨Nat.le_of_ble_eq_true rfl, Nat.le_of_ble_eq_true rfl⟩) ⟨bl_, va_recvX hK.1 hP (ci := 12) (q0 := 0) rfl rfl, fun U hU hW => ⟨rfl, by rw [hU], by rw [hU]; exact hPc, kk_mv hW hK, hDw⟩⟩ rfl rfl hl.1 rfl (lv_room (Nat.le_of_ble_eq_true rfl)) dX12_left_70 ⟨Nat.le_of_ble_eq_true rfl, Nat.le_of_ble_eq_true rfl⟩) hS (fun q _ h => hFc q h) hFc (fun r_26 u t H locs ht hvm hw hB hz1 hk1 hS => ?_)
            have hP : va_P D vwCl _ H := ro_keep hP hk1
            have f0_r_26 := hw
            have rI_2 := room_I (r := r_26) (by assumption) (by omega) (by omega) (r_f8 _ (in_lt (in_I (by omega) (by omega))))
            refine lv_aload_n hx hb dX12_left_73 rfl (lv_at hl 0 rfl) ?_
            refine va_get (ci := 12) (v := .ref g22) (C := RX12) (T := TX12) (N := 34) hx hb hts (fun _ h => List.mem_cons_of_mem _ (List.mem_append_right _ h)) hown hK.1 hP 0 rfl rfl 22 (by decide) (hts (.fieldLink RX12 61 "CutAtlasModel" "flows" "[I") (by decide +kernel)) (fun _ h9 => h9) rfl dX12_left_74 ?_
            refine lv_iload_n hx hb dX12_left_77 rfl (lv_at hl 1 rfl) ?_
            have h_27 : vp_in a1 40 := in_I (by omega) (by omega)
            refine va_iald hx hb hK.1 hP 6 0 rfl rfl (i := a1) h_27 dX12_left_78 ?_
            refine lv_topi (fun y_28 ey_28 => ?_)
            have ky_28 : y_28.toInt = (f22 a1.toNatClampNeg).toInt := by rw [ey_28]
            refine lv_iadd hx hb dX12_left_79 ?_
            refine lv_topi (fun y_29 ey_29 => ?_)
            have ty_29 : y_29.toInt = r_26.toInt + y_28.toInt := by rw [ey_29]; exact addI (by omega) (by omega)
            refine lv_goto (tgt := 84) hx hb dX12_left_80 (by decide) ?_
            rw [hQ]
            exact W.iret (v := y_29) hx hb hr (fun t ht hW => ⟨⟨y_29, (), rfl, (by unfold lfI; (repeat' split) <;> omega), trivial⟩, hS.F ht⟩) hS.2.2 dX12_left_84
      · have t_19 : y_18.toInt = a3.toInt := congrArg Int32.toInt c_19
        refine lv_aload_n hx hb dX12_left_31 rfl (lv_at hl 0 rfl) ?_
        refine lv_iload_n hx hb dX12_left_32 rfl (lv_at hl 1 rfl) ?_
        refine lv_iconst (v := 1) hx hb dX12_left_33 (by decide) ?_
        refine ct_R hP hD0 [(mo, .inr (12, [.int s0, .int s1, .long t2, .int s3, .int s4, .ref g5, .ref g6, .ref g7, .ref g8, .ref g9, .ref g10, .int s11, .ref g12, .ref g13, .ref g14, .ref g15, .ref g16, .ref g17, .ref g18, .ref g19, .ref g20, .int s21, .ref g22, .ref g23, .ref g24, .int s25, .int s26, .int s27, .int s28, .ref g29, .ref g30, .ref g31, .ref g32, .ref g33])), (g5, .inl (cy 0, 40, .inl f5)), (g8, .inl (cy 0, 40, .inl f8))] [0, 1, 4] (by decide) rfl (fun hPc hDw => ?_)
        have hFc := va_free (wc := []) hD hS hA [] rfl
        refine va_calli (va_runV (As := [.int a1, .int 1]) (rest := []) ⟨hx, hb, hml, hown, hts⟩ (c_X12_room l D cy s.heap.size mo g5 g6 g7 g8 g9 g10 g12 g13 g14 g15 g16 g17 g18 g19 g20 g22 g23 g24 g29 g30 g31 g32 g33 s0 s1 s3 s4 s11 s21 s25 s26 s27 s28 t2 f5 f8 a1 (1 : Int32) (by first | with_reducible assumption | omega | assumption)) (cwV 2 hts gX12_left_X12_room rfl rfl rfl (by decide +kernel) ⟨Nat.le_of_ble_eq_true rfl, Nat.le_of_ble_eq_true rfl⟩) ⟨bl_, va_recvX hK.1 hP (ci := 12) (q0 := 0) rfl rfl, fun U hU hW => ⟨rfl, by rw [hU], by rw [hU]; exact hPc, kk_mv hW hK, hDw⟩⟩ rfl rfl hl.1 rfl (lv_room (Nat.le_of_ble_eq_true rfl)) dX12_left_34 ⟨Nat.le_of_ble_eq_true rfl, Nat.le_of_ble_eq_true rfl⟩) hS (fun q _ h => hFc q h) hFc (fun r_30 u t H locs ht hvm hw hB hz1 hk1 hS => ?_)
        have hP : va_P D vwCl _ H := ro_keep hP hk1
        have f0_r_30 := hw
        have rI_1 := room_I (r := r_30) (by assumption) (by omega) (by omega) (r_f8 _ (in_lt (in_I (by omega) (by omega))))
        refine lv_aload_n hx hb dX12_left_37 rfl (lv_at hl 0 rfl) ?_
        refine va_get (ci := 12) (v := .ref g22) (C := RX12) (T := TX12) (N := 34) hx hb hts (fun _ h => List.mem_cons_of_mem _ (List.mem_append_right _ h)) hown hK.1 hP 0 rfl rfl 22 (by decide) (hts (.fieldLink RX12 61 "CutAtlasModel" "flows" "[I") (by decide +kernel)) (fun _ h9 => h9) rfl dX12_left_38 ?_
        refine lv_iload_n hx hb dX12_left_41 rfl (lv_at hl 1 rfl) ?_
        have h_31 : vp_in a1 40 := in_I (by omega) (by omega)
        refine va_iald hx hb hK.1 hP 6 0 rfl rfl (i := a1) h_31 dX12_left_42 ?_
        refine lv_topi (fun y_32 ey_32 => ?_)
        have ky_32 : y_32.toInt = (f22 a1.toNatClampNeg).toInt := by rw [ey_32]
        refine lv_isub hx hb dX12_left_43 ?_
        refine lv_topi (fun y_33 ey_33 => ?_)
        have ty_33 : y_33.toInt = r_30.toInt - y_32.toInt := by rw [ey_33]; exact subI (by omega) (by omega)
        refine lv_goto (tgt := 84) hx hb dX12_left_44 (by decide) ?_
        rw [hQ]
        exact W.iret (v := y_33) hx hb hr (fun t ht hW => ⟨⟨y_33, (), rfl, (by unfold lfI; (repeat' split) <;> omega), trivial⟩, hS.F ht⟩) hS.2.2 dX12_left_84
  · have t_3 : ¬ y_2.toInt = (0 : Int32).toInt := fun h => c_3 (Int32.toInt_inj.mp h)
    refine lv_iconst (v := 0) hx hb dX12_left_9 (by decide) ?_
    rw [hQ]
    exact W.iret (v := 0) hx hb hr (fun t ht hW => ⟨⟨0, (), rfl, (by unfold lfI; (repeat' split) <;> omega), trivial⟩, hS.F ht⟩) hS.2.2 dX12_left_10

set_option maxHeartbeats 4000000 in
set_option maxRecDepth 100000 in
theorem c_X12_leftOf (l : Launch) (D : va_G) (cy : Nat → ClassId) (sz : Nat) (mo : Nat) (g5 : Nat) (g6 : Nat) (g7 : Nat) (g8 : Nat) (g9 : Nat) (g10 : Nat) (g12 : Nat) (g13 : Nat) (g14 : Nat) (g15 : Nat) (g16 : Nat) (g17 : Nat) (g18 : Nat) (g19 : Nat) (g20 : Nat) (g22 : Nat) (g23 : Nat) (g24 : Nat) (g29 : Nat) (g30 : Nat) (g31 : Nat) (g32 : Nat) (g33 : Nat) (s0 : Int32) (s1 : Int32) (s3 : Int32) (s4 : Int32) (s11 : Int32) (s21 : Int32) (s25 : Int32) (s26 : Int32) (s27 : Int32) (s28 : Int32) (t2 : Int64) (f5 : Nat → Int32) (f6 : Nat → Int32) (f7 : Nat → Int32) (f8 : Nat → Int32) (f10 : Nat → Int32) (f22 : Nat → Int32) (a1 : Int32) (a2 : Int32) (hN : 0 ≤ s4.toInt ∧ s4.toInt ≤ 40) (h21 : s21.toInt = -9) (hfl : flOK f5 f8 f22) (r_f8 : rng f8 40 (0) (2000)) : Met l yX12_leftOf wsX12_leftOf ({ frames := 3, cells := 0, slots := 0, locals := 69 }) (va_Pc [.ref mo, .int a1, .int a2] (fun U => U.heap.size = sz ∧ va_P D vwCl [(mo, .inr (12, [.int s0, .int s1, .long t2, .int s3, .int s4, .ref g5, .ref g6, .ref g7, .ref g8, .ref g9, .ref g10, .int s11, .ref g12, .ref g13, .ref g14, .ref g15, .ref g16, .ref g17, .ref g18, .ref g19, .ref g20, .int s21, .ref g22, .ref g23, .ref g24, .int s25, .int s26, .int s27, .int s28, .ref g29, .ref g30, .ref g31, .ref g32, .ref g33])), (g5, .inl (cy 0, 40, .inl f5)), (g6, .inl (cy 0, 40, .inl f6)), (g7, .inl (cy 0, 40, .inl f7)), (g8, .inl (cy 0, 40, .inl f8)), (g10, .inl (cy 2, 40, .inl f10)), (g22, .inl (cy 0, 40, .inl f22))] U.heap ∧ kk_ D cy U ∧ va_D (fun _ => True) [(mo, .inr (12, [.int s0, .int s1, .long t2, .int s3, .int s4, .ref g5, .ref g6, .ref g7, .ref g8, .ref g9, .ref g10, .int s11, .ref g12, .ref g13, .ref g14, .ref g15, .ref g16, .ref g17, .ref g18, .ref g19, .ref g20, .int s21, .ref g22, .ref g23, .ref g24, .int s25, .int s26, .int s27, .int s28, .ref g29, .ref g30, .ref g31, .ref g32, .ref g33])), (g5, .inl (cy 0, 40, .inl f5)), (g6, .inl (cy 0, 40, .inl f6)), (g7, .inl (cy 0, 40, .inl f7)), (g8, .inl (cy 0, 40, .inl f8)), (g10, .inl (cy 2, 40, .inl f10)), (g22, .inl (cy 0, 40, .inl f22))])) (va_Qi (fun (r : Int32) (_ : Unit) => (r.toInt = sumI (lfI f5 f6 f7 f8 f10 f22 a1.toInt a2.toInt) s4.toNatClampNeg) ∧ (0 ≤ r.toInt)) (fun (_ : Unit) (_ : State) => True) (va_A [] sz)) 0 0 (va_A [] sz) := by
  refine ofQ (cc := cX12_leftOf) (maxL := 5) (ret := (some .int)) (by decide) rfl ?_
  intro p e s m args below meth c s₁ Q hQ B hml hv
  obtain ⟨rfl, hsz, hP, hK, hD0⟩ := hv
  have hx := B.exec
  have hb := B.bytes
  have hr := B.returns
  have hts := atoms_spec (ws := wsX12_leftOf) B.pre
  have hown : s.vm.findClass RX12 = some m.cls := by have h_ := findClass_of_methodNamed B.named; exact h_
  have hlocks := B.notSynchronized
  subst hsz
  have hD : va_D (va_A [] s.heap.size) [] := dd_nil
  generalize hAe : va_A [] s.heap.size = A at hD hQ
  have hA : ∀ q : Nat, s.heap.size ≤ q → A q := fun q h => by rw [← hAe]; exact Or.inr h
  have hS : va_S A s.heap s.heap [] := va_S.rf
  have hl := lv_entry ([.ref mo, .int a1, .int a2]) (n := 5) (Nat.le_of_ble_eq_true rfl)
  rw [lg_entry_eq]
  generalize (lg_sl ([.ref mo, .int a1, .int a2]) ++ List.replicate (5 - (lg_sl ([.ref mo, .int a1, .int a2])).length) Slot.unset).toArray = ls at hl ⊢
  have hl : lv_has ls 5 [(0, .ref mo), (1, .int a1), (2, .int a2)] := hl
  have z0 : (0 : Int32).toInt = 0 := by decide
  have z1 : (1 : Int32).toInt = 1 := by decide
  refine lv_iconst (v := 0) hx hb dX12_leftOf_0 (by decide) ?_
  refine lv_istore_n (lv' := [(3, .int 0), (0, .ref mo), (1, .int a1), (2, .int a2)]) hx hb dX12_leftOf_1 rfl hl (by decide) rfl (fun ls hl => ?_)
  refine lv_iconst (v := 0) hx hb dX12_leftOf_2 (by decide) ?_
  refine lv_istore (lv' := [(4, .int 0), (3, .int 0), (0, .ref mo), (1, .int a1), (2, .int a2)]) hx hb dX12_leftOf_3 hl (by decide) rfl (fun ls hl => ?_)
  suffices LOOP_1 : ∀ (n_1 : Nat) (x4_1 : Int32) (x3_1 : Int32) (H : Heap) (locs : List Loc) (ls : Array Slot), s4.toInt - x4_1.toInt < (n_1 : Int) → (0 ≤ x4_1.toInt) → (x4_1.toInt ≤ s4.toInt) → (x3_1.toInt = sumI (lfI f5 f6 f7 f8 f10 f22 a1.toInt a2.toInt) x4_1.toNatClampNeg) → (0 ≤ x3_1.toInt ∧ x3_1.toInt ≤ 2000000 * x4_1.toInt) → va_P D vwCl [(mo, .inr (12, [.int s0, .int s1, .long t2, .int s3, .int s4, .ref g5, .ref g6, .ref g7, .ref g8, .ref g9, .ref g10, .int s11, .ref g12, .ref g13, .ref g14, .ref g15, .ref g16, .ref g17, .ref g18, .ref g19, .ref g20, .int s21, .ref g22, .ref g23, .ref g24, .int s25, .int s26, .int s27, .int s28, .ref g29, .ref g30, .ref g31, .ref g32, .ref g33])), (g5, .inl (cy 0, 40, .inl f5)), (g6, .inl (cy 0, 40, .inl f6)), (g7, .inl (cy 0, 40, .inl f7)), (g8, .inl (cy 0, 40, .inl f8)), (g10, .inl (cy 2, 40, .inl f10)), (g22, .inl (cy 0, 40, .inl f22))] H → va_S A s.heap H locs → lv_has ls 5 [(4, .int x4_1), (3, .int x3_1), (0, .ref mo), (1, .int a1), (2, .int a2)] → W p l e ({ frames := 3, cells := 0, slots := 0, locals := 69 } : Room) s m (([.ref mo, .int a1, .int a2] : List Value).toArray) below meth c H locs 0 0 Q (F0 m 5 ls []) from LOOP_1 ((s4.toInt - (0 : Int32).toInt).toNat + 1) (0 : Int32) (0 : Int32) _ _ _ (by omega) (by first | with_reducible assumption | omega | assumption) (by first | with_reducible assumption | omega | assumption) (by first | exact sum_st (by assumption) (by assumption) (by omega) (by omega) (by omega) | rfl) (by first | with_reducible assumption | omega | assumption) hP  hS (lv_sub hl [0, 1, 2, 3, 4] rfl)
  intro n_1
  induction n_1 with
  | zero =>
    intro x4_1 x3_1 H locs ls hm v0_1 v1_1 v2_1 v3_1 hP hS hl
    exact absurd hm (by omega)
  | succ n_1 ih_1 =>
    intro x4_1 x3_1 H locs ls hm v0_1 v1_1 v2_1 v3_1 hP hS hl
    refine lv_iload hx hb dX12_leftOf_5 (lv_at hl 0 rfl) ?_
    refine lv_aload_n hx hb dX12_leftOf_7 rfl (lv_at hl 2 rfl) ?_
    refine va_get (ci := 12) (v := .int s4) (C := RX12) (T := TX12) (N := 34) hx hb hts (fun _ h => List.mem_cons_of_mem _ (List.mem_append_right _ h)) hown hK.1 hP 0 rfl rfl 4 (by decide) (hts (.fieldLink RX12 95 "CutAtlasModel" "lines" "I") (by decide +kernel)) (fun _ h9 => h9) rfl dX12_leftOf_8 ?_
    refine lv_icmp_ge (tgt := 31) hx hb dX12_leftOf_11 (by decide) (fun c_2 => ?_) (fun c_2 => ?_)
    · have t_2 : s4.toInt ≤ x4_1.toInt := Int32.le_iff_toInt_le.mp c_2
      refine lv_iload_n hx hb dX12_leftOf_31 rfl (lv_at hl 1 rfl) ?_
      rw [hQ]
      exact W.iret (v := x3_1) hx hb hr (fun t ht hW => ⟨⟨x3_1, (), rfl, ⟨by first | with_reducible assumption | assumption | (have e_ := Int32.toInt_inj.mp (show x4_1.toInt = s4.toInt by omega); subst e_; assumption), by omega⟩, trivial⟩, hS.F ht⟩) hS.2.2 dX12_leftOf_32
    · have t_2 : ¬ s4.toInt ≤ x4_1.toInt := fun h => c_2 (Int32.le_iff_toInt_le.mpr h)
      refine lv_iload_n hx hb dX12_leftOf_14 rfl (lv_at hl 1 rfl) ?_
      refine lv_aload_n hx hb dX12_leftOf_15 rfl (lv_at hl 2 rfl) ?_
      refine lv_iload hx hb dX12_leftOf_16 (lv_at hl 0 rfl) ?_
      refine lv_iload_n hx hb dX12_leftOf_18 rfl (lv_at hl 3 rfl) ?_
      refine lv_iload_n hx hb dX12_leftOf_19 rfl (lv_at hl 4 rfl) ?_
      refine ct_R hP hD0 [(mo, .inr (12, [.int s0, .int s1, .long t2, .int s3, .int s4, .ref g5, .ref g6, .ref g7, .ref g8, .ref g9, .ref g10, .int s11, .ref g12, .ref g13, .ref g14, .ref g15, .ref g16, .ref g17, .ref g18, .ref g19, .ref g20, .int s21, .ref g22, .ref g23, .ref g24, .int s25, .int s26, .int s27, .int s28, .ref g29, .ref g30, .ref g31, .ref g32, .ref g33])), (g5, .inl (cy 0, 40, .inl f5)), (g6, .inl (cy 0, 40, .inl f6)), (g7, .inl (cy 0, 40, .inl f7)), (g8, .inl (cy 0, 40, .inl f8)), (g10, .inl (cy 2, 40, .inl f10)), (g22, .inl (cy 0, 40, .inl f22))] [0, 1, 2, 3, 4, 5, 6] (by decide) rfl (fun hPc hDw => ?_)
      have hFc := va_free (wc := []) hD hS hA [] rfl
      refine va_calli (va_runV (As := [.int x4_1, .int a1, .int a2]) (rest := [.int x3_1]) ⟨hx, hb, hml, hown, hts⟩ (c_X12_left l D cy H.size mo g5 g6 g7 g8 g9 g10 g12 g13 g14 g15 g16 g17 g18 g19 g20 g22 g23 g24 g29 g30 g31 g32 g33 s0 s1 s3 s4 s11 s21 s25 s26 s27 s28 t2 f5 f6 f7 f8 f10 f22 x4_1 a1 a2 (by first | with_reducible assumption | omega | assumption) (by first | with_reducible assumption | omega | assumption) (by first | with_reducible assumption | assumption | omega) (by first | with_reducible assumption | assumption | omega)) (cwV 3 hts gX12_leftOf_X12_left rfl rfl rfl (by decide +kernel) ⟨Nat.le_of_ble_eq_true rfl, Nat.le_of_ble_eq_true rfl⟩) ⟨bl_, va_recvX hK.1 hP (ci := 12) (q0 := 0) rfl rfl, fun U hU hW => ⟨rfl, by rw [hU], by rw [hU]; exact hPc, kk_mv hW hK, hDw⟩⟩ rfl rfl hl.1 rfl (lv_room (Nat.le_of_ble_eq_true rfl)) dX12_leftOf_20 ⟨Nat.le_of_ble_eq_true rfl, Nat.le_of_ble_eq_true rfl⟩) hS (fun q _ h => hFc q h) hFc (fun r_3 u t H locs ht hvm hw hB hz1 hk1 hS => ?_)
      have hP : va_P D vwCl _ H := ro_keep hP hk1
      have f0_r_3 := hw
      have rg_ := lfI_rng (f6 := f6) (f7 := f7) (f10 := f10) hfl r_f8 (j := x4_1.toNatClampNeg) (in_lt (in_I (n := 40) (by omega) (by omega))) a1.toInt a2.toInt
      refine lv_iadd hx hb dX12_leftOf_23 ?_
      refine lv_topi (fun y_4 ey_4 => ?_)
      have ty_4 : y_4.toInt = x3_1.toInt + r_3.toInt := by rw [ey_4]; exact addI (by omega) (by omega)
      refine lv_istore_n (lv' := [(3, .int y_4), (4, .int x4_1), (0, .ref mo), (1, .int a1), (2, .int a2)]) hx hb dX12_leftOf_24 rfl hl (by decide) rfl (fun ls hl => ?_)
      obtain ⟨y_5, ey_5⟩ : ∃ y : Int32, y = x4_1 + 1 := ⟨_, rfl⟩
      have ty_5 : y_5.toInt = x4_1.toInt + (1 : Int32).toInt := by rw [ey_5]; exact addI (by omega) (by omega)
      refine lv_iinc (v := y_5) (lv' := [(4, .int y_5), (3, .int y_4), (0, .ref mo), (1, .int a1), (2, .int a2)]) hx hb dX12_leftOf_25 hl (k := 1) rfl (by rw [ey_5]; rfl) (by decide) rfl (fun ls hl => ?_)
      refine lv_goto (tgt := 5) hx hb dX12_leftOf_28 (by decide) ?_
      exact ih_1 y_5 y_4 _ _ _ (by omega) (by first | with_reducible assumption | omega | assumption) (by first | with_reducible assumption | omega | assumption) (by first | exact sum_st (by assumption) (by assumption) (by omega) (by omega) (by omega) | rfl) (by first | with_reducible assumption | omega | assumption) hP  hS (lv_sub hl [0, 1, 2, 3, 4] rfl)
end
