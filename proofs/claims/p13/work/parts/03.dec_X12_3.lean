section
theorem wdB_3_3_0 : dk_bw (cX12_about.data.toList.drop 0) [42, 3, 181, 0, 85, 3, 61, 3, 62, 29, 42, 180, 0, 95, 162, 0, 26, 28, 42, 180, 0, 25, 29, 51] = true := by decide +kernel
theorem dB_3_3_0 : ((((decode cX12_about 0 = .ok (.aload_n 0, 1)) ∧ (decode cX12_about 1 = .ok (.iconst 0, 1))) ∧ ((decode cX12_about 2 = .ok (.putfield 85, 3)) ∧ (decode cX12_about 5 = .ok (.iconst 0, 1)))) ∧ (((decode cX12_about 6 = .ok (.istore_n 2, 1)) ∧ (decode cX12_about 7 = .ok (.iconst 0, 1))) ∧ ((decode cX12_about 8 = .ok (.istore_n 3, 1)) ∧ (decode cX12_about 9 = .ok (.iload_n 3, 1))))) ∧ ((((decode cX12_about 10 = .ok (.aload_n 0, 1)) ∧ (decode cX12_about 11 = .ok (.getfield 95, 3))) ∧ ((decode cX12_about 14 = .ok (.if_icmp .ge 26, 3)) ∧ (decode cX12_about 17 = .ok (.iload_n 2, 1)))) ∧ (((decode cX12_about 18 = .ok (.aload_n 0, 1)) ∧ (decode cX12_about 19 = .ok (.getfield 25, 3))) ∧ ((decode cX12_about 22 = .ok (.iload_n 3, 1)) ∧ (decode cX12_about 23 = .ok (.baload, 1))))) := ⟨⟨⟨⟨dk_42 (dk_at wdB_3_3_0 0 _ rfl), dk_3 (dk_at wdB_3_3_0 1 _ rfl)⟩, ⟨dk_181 (dk_at wdB_3_3_0 2 _ rfl) (dk_at wdB_3_3_0 3 _ rfl) (dk_at wdB_3_3_0 4 _ rfl) rfl, dk_3 (dk_at wdB_3_3_0 5 _ rfl)⟩⟩, ⟨⟨dk_61 (dk_at wdB_3_3_0 6 _ rfl), dk_3 (dk_at wdB_3_3_0 7 _ rfl)⟩, ⟨dk_62 (dk_at wdB_3_3_0 8 _ rfl), dk_29 (dk_at wdB_3_3_0 9 _ rfl)⟩⟩⟩, ⟨⟨⟨dk_42 (dk_at wdB_3_3_0 10 _ rfl), dk_180 (dk_at wdB_3_3_0 11 _ rfl) (dk_at wdB_3_3_0 12 _ rfl) (dk_at wdB_3_3_0 13 _ rfl) rfl⟩, ⟨dk_162 (dk_at wdB_3_3_0 14 _ rfl) (dk_at wdB_3_3_0 15 _ rfl) (dk_at wdB_3_3_0 16 _ rfl) (by decide), dk_28 (dk_at wdB_3_3_0 17 _ rfl)⟩⟩, ⟨⟨dk_42 (dk_at wdB_3_3_0 18 _ rfl), dk_180 (dk_at wdB_3_3_0 19 _ rfl) (dk_at wdB_3_3_0 20 _ rfl) (dk_at wdB_3_3_0 21 _ rfl) rfl⟩, ⟨dk_29 (dk_at wdB_3_3_0 22 _ rfl), dk_51 (dk_at wdB_3_3_0 23 _ rfl)⟩⟩⟩⟩
theorem wdB_3_3_1 : dk_bw (cX12_about.data.toList.drop 24) [153, 0, 7, 4, 167, 0, 4, 3, 96, 61, 132, 3, 1, 167, 255, 228, 27, 154, 0, 10, 42, 180, 0, 88, 167, 0, 57, 27, 4, 160, 0, 10] = true := by decide +kernel
theorem dB_3_3_1 : ((((decode cX12_about 24 = .ok (.ifCond .eq 7, 3)) ∧ (decode cX12_about 27 = .ok (.iconst 1, 1))) ∧ ((decode cX12_about 28 = .ok (.goto 4, 3)) ∧ (decode cX12_about 31 = .ok (.iconst 0, 1)))) ∧ (((decode cX12_about 32 = .ok (.iadd, 1)) ∧ (decode cX12_about 33 = .ok (.istore_n 2, 1))) ∧ ((decode cX12_about 34 = .ok (.iinc 3 1, 3)) ∧ (decode cX12_about 37 = .ok (.goto (-28), 3))))) ∧ ((((decode cX12_about 40 = .ok (.iload_n 1, 1)) ∧ (decode cX12_about 41 = .ok (.ifCond .ne 10, 3))) ∧ ((decode cX12_about 44 = .ok (.aload_n 0, 1)) ∧ (decode cX12_about 45 = .ok (.getfield 88, 3)))) ∧ (((decode cX12_about 48 = .ok (.goto 57, 3)) ∧ (decode cX12_about 51 = .ok (.iload_n 1, 1))) ∧ ((decode cX12_about 52 = .ok (.iconst 1, 1)) ∧ (decode cX12_about 53 = .ok (.if_icmp .ne 10, 3))))) := ⟨⟨⟨⟨dk_153 (dk_at wdB_3_3_1 0 _ rfl) (dk_at wdB_3_3_1 1 _ rfl) (dk_at wdB_3_3_1 2 _ rfl) (by decide), dk_4 (dk_at wdB_3_3_1 3 _ rfl)⟩, ⟨dk_167 (dk_at wdB_3_3_1 4 _ rfl) (dk_at wdB_3_3_1 5 _ rfl) (dk_at wdB_3_3_1 6 _ rfl) (by decide), dk_3 (dk_at wdB_3_3_1 7 _ rfl)⟩⟩, ⟨⟨dk_96 (dk_at wdB_3_3_1 8 _ rfl), dk_61 (dk_at wdB_3_3_1 9 _ rfl)⟩, ⟨dk_132 (dk_at wdB_3_3_1 10 _ rfl) (dk_at wdB_3_3_1 11 _ rfl) (dk_at wdB_3_3_1 12 _ rfl) (by decide), dk_167 (dk_at wdB_3_3_1 13 _ rfl) (dk_at wdB_3_3_1 14 _ rfl) (dk_at wdB_3_3_1 15 _ rfl) (by decide)⟩⟩⟩, ⟨⟨⟨dk_27 (dk_at wdB_3_3_1 16 _ rfl), dk_154 (dk_at wdB_3_3_1 17 _ rfl) (dk_at wdB_3_3_1 18 _ rfl) (dk_at wdB_3_3_1 19 _ rfl) (by decide)⟩, ⟨dk_42 (dk_at wdB_3_3_1 20 _ rfl), dk_180 (dk_at wdB_3_3_1 21 _ rfl) (dk_at wdB_3_3_1 22 _ rfl) (dk_at wdB_3_3_1 23 _ rfl) rfl⟩⟩, ⟨⟨dk_167 (dk_at wdB_3_3_1 24 _ rfl) (dk_at wdB_3_3_1 25 _ rfl) (dk_at wdB_3_3_1 26 _ rfl) (by decide), dk_27 (dk_at wdB_3_3_1 27 _ rfl)⟩, ⟨dk_4 (dk_at wdB_3_3_1 28 _ rfl), dk_160 (dk_at wdB_3_3_1 29 _ rfl) (dk_at wdB_3_3_1 30 _ rfl) (dk_at wdB_3_3_1 31 _ rfl) (by decide)⟩⟩⟩⟩
theorem wdB_3_3_2 : dk_bw (cX12_about.data.toList.drop 56) [42, 180, 0, 95, 167, 0, 45, 27, 5, 160, 0, 7, 28, 167, 0, 36, 27, 6, 160, 0, 10, 42, 180, 0, 102, 167, 0, 24, 27, 7] = true := by decide +kernel
theorem dB_3_3_2 : ((((decode cX12_about 56 = .ok (.aload_n 0, 1)) ∧ (decode cX12_about 57 = .ok (.getfield 95, 3))) ∧ ((decode cX12_about 60 = .ok (.goto 45, 3)) ∧ (decode cX12_about 63 = .ok (.iload_n 1, 1)))) ∧ (((decode cX12_about 64 = .ok (.iconst 2, 1)) ∧ (decode cX12_about 65 = .ok (.if_icmp .ne 7, 3))) ∧ ((decode cX12_about 68 = .ok (.iload_n 2, 1)) ∧ (decode cX12_about 69 = .ok (.goto 36, 3))))) ∧ ((((decode cX12_about 72 = .ok (.iload_n 1, 1)) ∧ (decode cX12_about 73 = .ok (.iconst 3, 1))) ∧ ((decode cX12_about 74 = .ok (.if_icmp .ne 10, 3)) ∧ (decode cX12_about 77 = .ok (.aload_n 0, 1)))) ∧ (((decode cX12_about 78 = .ok (.getfield 102, 3)) ∧ (decode cX12_about 81 = .ok (.goto 24, 3))) ∧ ((decode cX12_about 84 = .ok (.iload_n 1, 1)) ∧ (decode cX12_about 85 = .ok (.iconst 4, 1))))) := ⟨⟨⟨⟨dk_42 (dk_at wdB_3_3_2 0 _ rfl), dk_180 (dk_at wdB_3_3_2 1 _ rfl) (dk_at wdB_3_3_2 2 _ rfl) (dk_at wdB_3_3_2 3 _ rfl) rfl⟩, ⟨dk_167 (dk_at wdB_3_3_2 4 _ rfl) (dk_at wdB_3_3_2 5 _ rfl) (dk_at wdB_3_3_2 6 _ rfl) (by decide), dk_27 (dk_at wdB_3_3_2 7 _ rfl)⟩⟩, ⟨⟨dk_5 (dk_at wdB_3_3_2 8 _ rfl), dk_160 (dk_at wdB_3_3_2 9 _ rfl) (dk_at wdB_3_3_2 10 _ rfl) (dk_at wdB_3_3_2 11 _ rfl) (by decide)⟩, ⟨dk_28 (dk_at wdB_3_3_2 12 _ rfl), dk_167 (dk_at wdB_3_3_2 13 _ rfl) (dk_at wdB_3_3_2 14 _ rfl) (dk_at wdB_3_3_2 15 _ rfl) (by decide)⟩⟩⟩, ⟨⟨⟨dk_27 (dk_at wdB_3_3_2 16 _ rfl), dk_6 (dk_at wdB_3_3_2 17 _ rfl)⟩, ⟨dk_160 (dk_at wdB_3_3_2 18 _ rfl) (dk_at wdB_3_3_2 19 _ rfl) (dk_at wdB_3_3_2 20 _ rfl) (by decide), dk_42 (dk_at wdB_3_3_2 21 _ rfl)⟩⟩, ⟨⟨dk_180 (dk_at wdB_3_3_2 22 _ rfl) (dk_at wdB_3_3_2 23 _ rfl) (dk_at wdB_3_3_2 24 _ rfl) rfl, dk_167 (dk_at wdB_3_3_2 25 _ rfl) (dk_at wdB_3_3_2 26 _ rfl) (dk_at wdB_3_3_2 27 _ rfl) (by decide)⟩, ⟨dk_27 (dk_at wdB_3_3_2 28 _ rfl), dk_7 (dk_at wdB_3_3_2 29 _ rfl)⟩⟩⟩⟩
theorem wdB_3_3_3 : dk_bw (cX12_about.data.toList.drop 86) [160, 0, 18, 42, 182, 0, 225, 153, 0, 7, 4, 167, 0, 8, 3, 167, 0, 4, 2, 172] = true := by decide +kernel
theorem dB_3_3_3 : (((decode cX12_about 86 = .ok (.if_icmp .ne 18, 3)) ∧ (decode cX12_about 89 = .ok (.aload_n 0, 1))) ∧ ((decode cX12_about 90 = .ok (.invokevirtual 225, 3)) ∧ ((decode cX12_about 93 = .ok (.ifCond .eq 7, 3)) ∧ (decode cX12_about 96 = .ok (.iconst 1, 1))))) ∧ (((decode cX12_about 97 = .ok (.goto 8, 3)) ∧ (decode cX12_about 100 = .ok (.iconst 0, 1))) ∧ ((decode cX12_about 101 = .ok (.goto 4, 3)) ∧ ((decode cX12_about 104 = .ok (.iconst (-1), 1)) ∧ (decode cX12_about 105 = .ok (.ireturn, 1))))) := ⟨⟨⟨dk_160 (dk_at wdB_3_3_3 0 _ rfl) (dk_at wdB_3_3_3 1 _ rfl) (dk_at wdB_3_3_3 2 _ rfl) (by decide), dk_42 (dk_at wdB_3_3_3 3 _ rfl)⟩, ⟨dk_182 (dk_at wdB_3_3_3 4 _ rfl) (dk_at wdB_3_3_3 5 _ rfl) (dk_at wdB_3_3_3 6 _ rfl) rfl, ⟨dk_153 (dk_at wdB_3_3_3 7 _ rfl) (dk_at wdB_3_3_3 8 _ rfl) (dk_at wdB_3_3_3 9 _ rfl) (by decide), dk_4 (dk_at wdB_3_3_3 10 _ rfl)⟩⟩⟩, ⟨⟨dk_167 (dk_at wdB_3_3_3 11 _ rfl) (dk_at wdB_3_3_3 12 _ rfl) (dk_at wdB_3_3_3 13 _ rfl) (by decide), dk_3 (dk_at wdB_3_3_3 14 _ rfl)⟩, ⟨dk_167 (dk_at wdB_3_3_3 15 _ rfl) (dk_at wdB_3_3_3 16 _ rfl) (dk_at wdB_3_3_3 17 _ rfl) (by decide), ⟨dk_2 (dk_at wdB_3_3_3 18 _ rfl), dk_172 (dk_at wdB_3_3_3 19 _ rfl)⟩⟩⟩⟩
theorem wdB_3_3_4 : dk_bw (cX12_areThere.data.toList.drop 0) [26, 155, 0, 22, 27, 155, 0, 18, 26, 133, 27, 133, 97, 28, 133, 148, 157, 0, 7, 4, 167, 0, 4, 3] = true := by decide +kernel
theorem dB_3_3_4 : ((((decode cX12_areThere 0 = .ok (.iload_n 0, 1)) ∧ (decode cX12_areThere 1 = .ok (.ifCond .lt 22, 3))) ∧ ((decode cX12_areThere 4 = .ok (.iload_n 1, 1)) ∧ (decode cX12_areThere 5 = .ok (.ifCond .lt 18, 3)))) ∧ (((decode cX12_areThere 8 = .ok (.iload_n 0, 1)) ∧ (decode cX12_areThere 9 = .ok (.i2l, 1))) ∧ ((decode cX12_areThere 10 = .ok (.iload_n 1, 1)) ∧ (decode cX12_areThere 11 = .ok (.i2l, 1))))) ∧ ((((decode cX12_areThere 12 = .ok (.ladd, 1)) ∧ (decode cX12_areThere 13 = .ok (.iload_n 2, 1))) ∧ ((decode cX12_areThere 14 = .ok (.i2l, 1)) ∧ (decode cX12_areThere 15 = .ok (.lcmp, 1)))) ∧ (((decode cX12_areThere 16 = .ok (.ifCond .gt 7, 3)) ∧ (decode cX12_areThere 19 = .ok (.iconst 1, 1))) ∧ ((decode cX12_areThere 20 = .ok (.goto 4, 3)) ∧ (decode cX12_areThere 23 = .ok (.iconst 0, 1))))) := ⟨⟨⟨⟨dk_26 (dk_at wdB_3_3_4 0 _ rfl), dk_155 (dk_at wdB_3_3_4 1 _ rfl) (dk_at wdB_3_3_4 2 _ rfl) (dk_at wdB_3_3_4 3 _ rfl) (by decide)⟩, ⟨dk_27 (dk_at wdB_3_3_4 4 _ rfl), dk_155 (dk_at wdB_3_3_4 5 _ rfl) (dk_at wdB_3_3_4 6 _ rfl) (dk_at wdB_3_3_4 7 _ rfl) (by decide)⟩⟩, ⟨⟨dk_26 (dk_at wdB_3_3_4 8 _ rfl), dk_133 (dk_at wdB_3_3_4 9 _ rfl)⟩, ⟨dk_27 (dk_at wdB_3_3_4 10 _ rfl), dk_133 (dk_at wdB_3_3_4 11 _ rfl)⟩⟩⟩, ⟨⟨⟨dk_97 (dk_at wdB_3_3_4 12 _ rfl), dk_28 (dk_at wdB_3_3_4 13 _ rfl)⟩, ⟨dk_133 (dk_at wdB_3_3_4 14 _ rfl), dk_148 (dk_at wdB_3_3_4 15 _ rfl)⟩⟩, ⟨⟨dk_157 (dk_at wdB_3_3_4 16 _ rfl) (dk_at wdB_3_3_4 17 _ rfl) (dk_at wdB_3_3_4 18 _ rfl) (by decide), dk_4 (dk_at wdB_3_3_4 19 _ rfl)⟩, ⟨dk_167 (dk_at wdB_3_3_4 20 _ rfl) (dk_at wdB_3_3_4 21 _ rfl) (dk_at wdB_3_3_4 22 _ rfl) (by decide), dk_3 (dk_at wdB_3_3_4 23 _ rfl)⟩⟩⟩⟩
theorem wdB_3_3_5 : dk_bw (cX12_areThere.data.toList.drop 24) [172] = true := by decide +kernel
theorem dB_3_3_5 : decode cX12_areThere 24 = .ok (.ireturn, 1) := dk_172 (dk_at wdB_3_3_5 0 _ rfl)
theorem wdB_3_3_6 : dk_bw (cX12_copy.data.toList.drop 0) [42, 3, 181, 0, 85, 42, 3, 181, 0, 240, 27, 133, 9, 20, 0, 243, 184, 0, 91, 154, 0, 9, 42, 2, 182, 0, 245, 172] = true := by decide +kernel
theorem dB_3_3_6 : ((((decode cX12_copy 0 = .ok (.aload_n 0, 1)) ∧ (decode cX12_copy 1 = .ok (.iconst 0, 1))) ∧ ((decode cX12_copy 2 = .ok (.putfield 85, 3)) ∧ (decode cX12_copy 5 = .ok (.aload_n 0, 1)))) ∧ (((decode cX12_copy 6 = .ok (.iconst 0, 1)) ∧ (decode cX12_copy 7 = .ok (.putfield 240, 3))) ∧ ((decode cX12_copy 10 = .ok (.iload_n 1, 1)) ∧ (decode cX12_copy 11 = .ok (.i2l, 1))))) ∧ ((((decode cX12_copy 12 = .ok (.lconst 0, 1)) ∧ (decode cX12_copy 13 = .ok (.ldc2_w 243, 3))) ∧ ((decode cX12_copy 16 = .ok (.invokestatic 91, 3)) ∧ (decode cX12_copy 19 = .ok (.ifCond .ne 9, 3)))) ∧ (((decode cX12_copy 22 = .ok (.aload_n 0, 1)) ∧ (decode cX12_copy 23 = .ok (.iconst (-1), 1))) ∧ ((decode cX12_copy 24 = .ok (.invokevirtual 245, 3)) ∧ (decode cX12_copy 27 = .ok (.ireturn, 1))))) := ⟨⟨⟨⟨dk_42 (dk_at wdB_3_3_6 0 _ rfl), dk_3 (dk_at wdB_3_3_6 1 _ rfl)⟩, ⟨dk_181 (dk_at wdB_3_3_6 2 _ rfl) (dk_at wdB_3_3_6 3 _ rfl) (dk_at wdB_3_3_6 4 _ rfl) rfl, dk_42 (dk_at wdB_3_3_6 5 _ rfl)⟩⟩, ⟨⟨dk_3 (dk_at wdB_3_3_6 6 _ rfl), dk_181 (dk_at wdB_3_3_6 7 _ rfl) (dk_at wdB_3_3_6 8 _ rfl) (dk_at wdB_3_3_6 9 _ rfl) rfl⟩, ⟨dk_27 (dk_at wdB_3_3_6 10 _ rfl), dk_133 (dk_at wdB_3_3_6 11 _ rfl)⟩⟩⟩, ⟨⟨⟨dk_9 (dk_at wdB_3_3_6 12 _ rfl), dk_20 (dk_at wdB_3_3_6 13 _ rfl) (dk_at wdB_3_3_6 14 _ rfl) (dk_at wdB_3_3_6 15 _ rfl) rfl⟩, ⟨dk_184 (dk_at wdB_3_3_6 16 _ rfl) (dk_at wdB_3_3_6 17 _ rfl) (dk_at wdB_3_3_6 18 _ rfl) rfl, dk_154 (dk_at wdB_3_3_6 19 _ rfl) (dk_at wdB_3_3_6 20 _ rfl) (dk_at wdB_3_3_6 21 _ rfl) (by decide)⟩⟩, ⟨⟨dk_42 (dk_at wdB_3_3_6 22 _ rfl), dk_2 (dk_at wdB_3_3_6 23 _ rfl)⟩, ⟨dk_182 (dk_at wdB_3_3_6 24 _ rfl) (dk_at wdB_3_3_6 25 _ rfl) (dk_at wdB_3_3_6 26 _ rfl) rfl, dk_172 (dk_at wdB_3_3_6 27 _ rfl)⟩⟩⟩⟩
theorem wdB_3_3_7 : dk_bw (cX12_copy.data.toList.drop 28) [42, 180, 0, 38, 27, 51, 154, 0, 10, 42, 16, 245, 182, 0, 245, 172, 28, 133, 9, 42, 180, 0, 44, 27, 46] = true := by decide +kernel
theorem dB_3_3_7 : ((((decode cX12_copy 28 = .ok (.aload_n 0, 1)) ∧ (decode cX12_copy 29 = .ok (.getfield 38, 3))) ∧ ((decode cX12_copy 32 = .ok (.iload_n 1, 1)) ∧ (decode cX12_copy 33 = .ok (.baload, 1)))) ∧ (((decode cX12_copy 34 = .ok (.ifCond .ne 10, 3)) ∧ (decode cX12_copy 37 = .ok (.aload_n 0, 1))) ∧ ((decode cX12_copy 38 = .ok (.bipush (-11), 2)) ∧ (decode cX12_copy 40 = .ok (.invokevirtual 245, 3))))) ∧ ((((decode cX12_copy 43 = .ok (.ireturn, 1)) ∧ (decode cX12_copy 44 = .ok (.iload_n 2, 1))) ∧ ((decode cX12_copy 45 = .ok (.i2l, 1)) ∧ (decode cX12_copy 46 = .ok (.lconst 0, 1)))) ∧ (((decode cX12_copy 47 = .ok (.aload_n 0, 1)) ∧ (decode cX12_copy 48 = .ok (.getfield 44, 3))) ∧ ((decode cX12_copy 51 = .ok (.iload_n 1, 1)) ∧ (decode cX12_copy 52 = .ok (.iaload, 1))))) := ⟨⟨⟨⟨dk_42 (dk_at wdB_3_3_7 0 _ rfl), dk_180 (dk_at wdB_3_3_7 1 _ rfl) (dk_at wdB_3_3_7 2 _ rfl) (dk_at wdB_3_3_7 3 _ rfl) rfl⟩, ⟨dk_27 (dk_at wdB_3_3_7 4 _ rfl), dk_51 (dk_at wdB_3_3_7 5 _ rfl)⟩⟩, ⟨⟨dk_154 (dk_at wdB_3_3_7 6 _ rfl) (dk_at wdB_3_3_7 7 _ rfl) (dk_at wdB_3_3_7 8 _ rfl) (by decide), dk_42 (dk_at wdB_3_3_7 9 _ rfl)⟩, ⟨dk_16 (dk_at wdB_3_3_7 10 _ rfl) (dk_at wdB_3_3_7 11 _ rfl) (by decide), dk_182 (dk_at wdB_3_3_7 12 _ rfl) (dk_at wdB_3_3_7 13 _ rfl) (dk_at wdB_3_3_7 14 _ rfl) rfl⟩⟩⟩, ⟨⟨⟨dk_172 (dk_at wdB_3_3_7 15 _ rfl), dk_28 (dk_at wdB_3_3_7 16 _ rfl)⟩, ⟨dk_133 (dk_at wdB_3_3_7 17 _ rfl), dk_9 (dk_at wdB_3_3_7 18 _ rfl)⟩⟩, ⟨⟨dk_42 (dk_at wdB_3_3_7 19 _ rfl), dk_180 (dk_at wdB_3_3_7 20 _ rfl) (dk_at wdB_3_3_7 21 _ rfl) (dk_at wdB_3_3_7 22 _ rfl) rfl⟩, ⟨dk_27 (dk_at wdB_3_3_7 23 _ rfl), dk_46 (dk_at wdB_3_3_7 24 _ rfl)⟩⟩⟩⟩
theorem wdB_3_3_8 : dk_bw (cX12_copy.data.toList.drop 53) [4, 100, 133, 184, 0, 91, 153, 0, 22, 21, 4, 133, 9, 42, 180, 0, 44, 27, 46, 4, 100, 133, 184, 0, 91] = true := by decide +kernel
theorem dB_3_3_8 : ((((decode cX12_copy 53 = .ok (.iconst 1, 1)) ∧ (decode cX12_copy 54 = .ok (.isub, 1))) ∧ ((decode cX12_copy 55 = .ok (.i2l, 1)) ∧ (decode cX12_copy 56 = .ok (.invokestatic 91, 3)))) ∧ (((decode cX12_copy 59 = .ok (.ifCond .eq 22, 3)) ∧ (decode cX12_copy 62 = .ok (.iload 4, 2))) ∧ ((decode cX12_copy 64 = .ok (.i2l, 1)) ∧ (decode cX12_copy 65 = .ok (.lconst 0, 1))))) ∧ ((((decode cX12_copy 66 = .ok (.aload_n 0, 1)) ∧ (decode cX12_copy 67 = .ok (.getfield 44, 3))) ∧ ((decode cX12_copy 70 = .ok (.iload_n 1, 1)) ∧ (decode cX12_copy 71 = .ok (.iaload, 1)))) ∧ (((decode cX12_copy 72 = .ok (.iconst 1, 1)) ∧ (decode cX12_copy 73 = .ok (.isub, 1))) ∧ ((decode cX12_copy 74 = .ok (.i2l, 1)) ∧ (decode cX12_copy 75 = .ok (.invokestatic 91, 3))))) := ⟨⟨⟨⟨dk_4 (dk_at wdB_3_3_8 0 _ rfl), dk_100 (dk_at wdB_3_3_8 1 _ rfl)⟩, ⟨dk_133 (dk_at wdB_3_3_8 2 _ rfl), dk_184 (dk_at wdB_3_3_8 3 _ rfl) (dk_at wdB_3_3_8 4 _ rfl) (dk_at wdB_3_3_8 5 _ rfl) rfl⟩⟩, ⟨⟨dk_153 (dk_at wdB_3_3_8 6 _ rfl) (dk_at wdB_3_3_8 7 _ rfl) (dk_at wdB_3_3_8 8 _ rfl) (by decide), dk_21 (dk_at wdB_3_3_8 9 _ rfl) (dk_at wdB_3_3_8 10 _ rfl)⟩, ⟨dk_133 (dk_at wdB_3_3_8 11 _ rfl), dk_9 (dk_at wdB_3_3_8 12 _ rfl)⟩⟩⟩, ⟨⟨⟨dk_42 (dk_at wdB_3_3_8 13 _ rfl), dk_180 (dk_at wdB_3_3_8 14 _ rfl) (dk_at wdB_3_3_8 15 _ rfl) (dk_at wdB_3_3_8 16 _ rfl) rfl⟩, ⟨dk_27 (dk_at wdB_3_3_8 17 _ rfl), dk_46 (dk_at wdB_3_3_8 18 _ rfl)⟩⟩, ⟨⟨dk_4 (dk_at wdB_3_3_8 19 _ rfl), dk_100 (dk_at wdB_3_3_8 20 _ rfl)⟩, ⟨dk_133 (dk_at wdB_3_3_8 21 _ rfl), dk_184 (dk_at wdB_3_3_8 22 _ rfl) (dk_at wdB_3_3_8 23 _ rfl) (dk_at wdB_3_3_8 24 _ rfl) rfl⟩⟩⟩⟩
theorem wdB_3_3_9 : dk_bw (cX12_copy.data.toList.drop 78) [154, 0, 10, 42, 16, 244, 182, 0, 245, 172, 42, 180, 0, 47, 16, 6, 27, 104, 28, 96, 46, 54, 7, 42, 180, 0, 47] = true := by decide +kernel
theorem dB_3_3_9 : ((((decode cX12_copy 78 = .ok (.ifCond .ne 10, 3)) ∧ (decode cX12_copy 81 = .ok (.aload_n 0, 1))) ∧ ((decode cX12_copy 82 = .ok (.bipush (-12), 2)) ∧ (decode cX12_copy 84 = .ok (.invokevirtual 245, 3)))) ∧ (((decode cX12_copy 87 = .ok (.ireturn, 1)) ∧ (decode cX12_copy 88 = .ok (.aload_n 0, 1))) ∧ ((decode cX12_copy 89 = .ok (.getfield 47, 3)) ∧ (decode cX12_copy 92 = .ok (.bipush 6, 2))))) ∧ ((((decode cX12_copy 94 = .ok (.iload_n 1, 1)) ∧ (decode cX12_copy 95 = .ok (.imul, 1))) ∧ ((decode cX12_copy 96 = .ok (.iload_n 2, 1)) ∧ (decode cX12_copy 97 = .ok (.iadd, 1)))) ∧ (((decode cX12_copy 98 = .ok (.iaload, 1)) ∧ (decode cX12_copy 99 = .ok (.istore 7, 2))) ∧ ((decode cX12_copy 101 = .ok (.aload_n 0, 1)) ∧ (decode cX12_copy 102 = .ok (.getfield 47, 3))))) := ⟨⟨⟨⟨dk_154 (dk_at wdB_3_3_9 0 _ rfl) (dk_at wdB_3_3_9 1 _ rfl) (dk_at wdB_3_3_9 2 _ rfl) (by decide), dk_42 (dk_at wdB_3_3_9 3 _ rfl)⟩, ⟨dk_16 (dk_at wdB_3_3_9 4 _ rfl) (dk_at wdB_3_3_9 5 _ rfl) (by decide), dk_182 (dk_at wdB_3_3_9 6 _ rfl) (dk_at wdB_3_3_9 7 _ rfl) (dk_at wdB_3_3_9 8 _ rfl) rfl⟩⟩, ⟨⟨dk_172 (dk_at wdB_3_3_9 9 _ rfl), dk_42 (dk_at wdB_3_3_9 10 _ rfl)⟩, ⟨dk_180 (dk_at wdB_3_3_9 11 _ rfl) (dk_at wdB_3_3_9 12 _ rfl) (dk_at wdB_3_3_9 13 _ rfl) rfl, dk_16 (dk_at wdB_3_3_9 14 _ rfl) (dk_at wdB_3_3_9 15 _ rfl) (by decide)⟩⟩⟩, ⟨⟨⟨dk_27 (dk_at wdB_3_3_9 16 _ rfl), dk_104 (dk_at wdB_3_3_9 17 _ rfl)⟩, ⟨dk_28 (dk_at wdB_3_3_9 18 _ rfl), dk_96 (dk_at wdB_3_3_9 19 _ rfl)⟩⟩, ⟨⟨dk_46 (dk_at wdB_3_3_9 20 _ rfl), dk_54 (dk_at wdB_3_3_9 21 _ rfl) (dk_at wdB_3_3_9 22 _ rfl)⟩, ⟨dk_42 (dk_at wdB_3_3_9 23 _ rfl), dk_180 (dk_at wdB_3_3_9 24 _ rfl) (dk_at wdB_3_3_9 25 _ rfl) (dk_at wdB_3_3_9 26 _ rfl) rfl⟩⟩⟩⟩
theorem wdB_3_3_10 : dk_bw (cX12_copy.data.toList.drop 105) [16, 6, 27, 104, 21, 4, 96, 46, 54, 8, 21, 7, 16, 247, 159, 0, 10, 21, 8, 16, 247, 160, 0, 10, 42, 16, 245, 182, 0, 245] = true := by decide +kernel
theorem dB_3_3_10 : ((((decode cX12_copy 105 = .ok (.bipush 6, 2)) ∧ (decode cX12_copy 107 = .ok (.iload_n 1, 1))) ∧ ((decode cX12_copy 108 = .ok (.imul, 1)) ∧ (decode cX12_copy 109 = .ok (.iload 4, 2)))) ∧ (((decode cX12_copy 111 = .ok (.iadd, 1)) ∧ (decode cX12_copy 112 = .ok (.iaload, 1))) ∧ ((decode cX12_copy 113 = .ok (.istore 8, 2)) ∧ (decode cX12_copy 115 = .ok (.iload 7, 2))))) ∧ ((((decode cX12_copy 117 = .ok (.bipush (-9), 2)) ∧ (decode cX12_copy 119 = .ok (.if_icmp .eq 10, 3))) ∧ ((decode cX12_copy 122 = .ok (.iload 8, 2)) ∧ (decode cX12_copy 124 = .ok (.bipush (-9), 2)))) ∧ (((decode cX12_copy 126 = .ok (.if_icmp .ne 10, 3)) ∧ (decode cX12_copy 129 = .ok (.aload_n 0, 1))) ∧ ((decode cX12_copy 130 = .ok (.bipush (-11), 2)) ∧ (decode cX12_copy 132 = .ok (.invokevirtual 245, 3))))) := ⟨⟨⟨⟨dk_16 (dk_at wdB_3_3_10 0 _ rfl) (dk_at wdB_3_3_10 1 _ rfl) (by decide), dk_27 (dk_at wdB_3_3_10 2 _ rfl)⟩, ⟨dk_104 (dk_at wdB_3_3_10 3 _ rfl), dk_21 (dk_at wdB_3_3_10 4 _ rfl) (dk_at wdB_3_3_10 5 _ rfl)⟩⟩, ⟨⟨dk_96 (dk_at wdB_3_3_10 6 _ rfl), dk_46 (dk_at wdB_3_3_10 7 _ rfl)⟩, ⟨dk_54 (dk_at wdB_3_3_10 8 _ rfl) (dk_at wdB_3_3_10 9 _ rfl), dk_21 (dk_at wdB_3_3_10 10 _ rfl) (dk_at wdB_3_3_10 11 _ rfl)⟩⟩⟩, ⟨⟨⟨dk_16 (dk_at wdB_3_3_10 12 _ rfl) (dk_at wdB_3_3_10 13 _ rfl) (by decide), dk_159 (dk_at wdB_3_3_10 14 _ rfl) (dk_at wdB_3_3_10 15 _ rfl) (dk_at wdB_3_3_10 16 _ rfl) (by decide)⟩, ⟨dk_21 (dk_at wdB_3_3_10 17 _ rfl) (dk_at wdB_3_3_10 18 _ rfl), dk_16 (dk_at wdB_3_3_10 19 _ rfl) (dk_at wdB_3_3_10 20 _ rfl) (by decide)⟩⟩, ⟨⟨dk_160 (dk_at wdB_3_3_10 21 _ rfl) (dk_at wdB_3_3_10 22 _ rfl) (dk_at wdB_3_3_10 23 _ rfl) (by decide), dk_42 (dk_at wdB_3_3_10 24 _ rfl)⟩, ⟨dk_16 (dk_at wdB_3_3_10 25 _ rfl) (dk_at wdB_3_3_10 26 _ rfl) (by decide), dk_182 (dk_at wdB_3_3_10 27 _ rfl) (dk_at wdB_3_3_10 28 _ rfl) (dk_at wdB_3_3_10 29 _ rfl) rfl⟩⟩⟩⟩
theorem wdB_3_3_11 : dk_bw (cX12_copy.data.toList.drop 135) [172, 29, 21, 6, 21, 7, 184, 0, 252, 153, 0, 15, 21, 5, 21, 6, 21, 8, 184, 0, 252, 154, 0, 10, 42, 16, 244, 182, 0, 245, 172, 3] = true := by decide +kernel
theorem dB_3_3_11 : ((((decode cX12_copy 135 = .ok (.ireturn, 1)) ∧ (decode cX12_copy 136 = .ok (.iload_n 3, 1))) ∧ ((decode cX12_copy 137 = .ok (.iload 6, 2)) ∧ (decode cX12_copy 139 = .ok (.iload 7, 2)))) ∧ (((decode cX12_copy 141 = .ok (.invokestatic 252, 3)) ∧ (decode cX12_copy 144 = .ok (.ifCond .eq 15, 3))) ∧ ((decode cX12_copy 147 = .ok (.iload 5, 2)) ∧ (decode cX12_copy 149 = .ok (.iload 6, 2))))) ∧ ((((decode cX12_copy 151 = .ok (.iload 8, 2)) ∧ (decode cX12_copy 153 = .ok (.invokestatic 252, 3))) ∧ ((decode cX12_copy 156 = .ok (.ifCond .ne 10, 3)) ∧ (decode cX12_copy 159 = .ok (.aload_n 0, 1)))) ∧ (((decode cX12_copy 160 = .ok (.bipush (-12), 2)) ∧ (decode cX12_copy 162 = .ok (.invokevirtual 245, 3))) ∧ ((decode cX12_copy 165 = .ok (.ireturn, 1)) ∧ (decode cX12_copy 166 = .ok (.iconst 0, 1))))) := ⟨⟨⟨⟨dk_172 (dk_at wdB_3_3_11 0 _ rfl), dk_29 (dk_at wdB_3_3_11 1 _ rfl)⟩, ⟨dk_21 (dk_at wdB_3_3_11 2 _ rfl) (dk_at wdB_3_3_11 3 _ rfl), dk_21 (dk_at wdB_3_3_11 4 _ rfl) (dk_at wdB_3_3_11 5 _ rfl)⟩⟩, ⟨⟨dk_184 (dk_at wdB_3_3_11 6 _ rfl) (dk_at wdB_3_3_11 7 _ rfl) (dk_at wdB_3_3_11 8 _ rfl) rfl, dk_153 (dk_at wdB_3_3_11 9 _ rfl) (dk_at wdB_3_3_11 10 _ rfl) (dk_at wdB_3_3_11 11 _ rfl) (by decide)⟩, ⟨dk_21 (dk_at wdB_3_3_11 12 _ rfl) (dk_at wdB_3_3_11 13 _ rfl), dk_21 (dk_at wdB_3_3_11 14 _ rfl) (dk_at wdB_3_3_11 15 _ rfl)⟩⟩⟩, ⟨⟨⟨dk_21 (dk_at wdB_3_3_11 16 _ rfl) (dk_at wdB_3_3_11 17 _ rfl), dk_184 (dk_at wdB_3_3_11 18 _ rfl) (dk_at wdB_3_3_11 19 _ rfl) (dk_at wdB_3_3_11 20 _ rfl) rfl⟩, ⟨dk_154 (dk_at wdB_3_3_11 21 _ rfl) (dk_at wdB_3_3_11 22 _ rfl) (dk_at wdB_3_3_11 23 _ rfl) (by decide), dk_42 (dk_at wdB_3_3_11 24 _ rfl)⟩⟩, ⟨⟨dk_16 (dk_at wdB_3_3_11 25 _ rfl) (dk_at wdB_3_3_11 26 _ rfl) (by decide), dk_182 (dk_at wdB_3_3_11 27 _ rfl) (dk_at wdB_3_3_11 28 _ rfl) (dk_at wdB_3_3_11 29 _ rfl) rfl⟩, ⟨dk_172 (dk_at wdB_3_3_11 30 _ rfl), dk_3 (dk_at wdB_3_3_11 31 _ rfl)⟩⟩⟩⟩
theorem wdB_3_3_12 : dk_bw (cX12_copy.data.toList.drop 167) [54, 9, 21, 9, 21, 6, 162, 0, 34, 42, 180, 0, 54, 21, 9, 42, 180, 0, 50, 16, 30, 27, 104, 8, 28, 104, 96] = true := by decide +kernel
theorem dB_3_3_12 : ((((decode cX12_copy 167 = .ok (.istore 9, 2)) ∧ (decode cX12_copy 169 = .ok (.iload 9, 2))) ∧ ((decode cX12_copy 171 = .ok (.iload 6, 2)) ∧ (decode cX12_copy 173 = .ok (.if_icmp .ge 34, 3)))) ∧ (((decode cX12_copy 176 = .ok (.aload_n 0, 1)) ∧ (decode cX12_copy 177 = .ok (.getfield 54, 3))) ∧ ((decode cX12_copy 180 = .ok (.iload 9, 2)) ∧ (decode cX12_copy 182 = .ok (.aload_n 0, 1))))) ∧ ((((decode cX12_copy 183 = .ok (.getfield 50, 3)) ∧ (decode cX12_copy 186 = .ok (.bipush 30, 2))) ∧ ((decode cX12_copy 188 = .ok (.iload_n 1, 1)) ∧ (decode cX12_copy 189 = .ok (.imul, 1)))) ∧ (((decode cX12_copy 190 = .ok (.iconst 5, 1)) ∧ (decode cX12_copy 191 = .ok (.iload_n 2, 1))) ∧ ((decode cX12_copy 192 = .ok (.imul, 1)) ∧ (decode cX12_copy 193 = .ok (.iadd, 1))))) := ⟨⟨⟨⟨dk_54 (dk_at wdB_3_3_12 0 _ rfl) (dk_at wdB_3_3_12 1 _ rfl), dk_21 (dk_at wdB_3_3_12 2 _ rfl) (dk_at wdB_3_3_12 3 _ rfl)⟩, ⟨dk_21 (dk_at wdB_3_3_12 4 _ rfl) (dk_at wdB_3_3_12 5 _ rfl), dk_162 (dk_at wdB_3_3_12 6 _ rfl) (dk_at wdB_3_3_12 7 _ rfl) (dk_at wdB_3_3_12 8 _ rfl) (by decide)⟩⟩, ⟨⟨dk_42 (dk_at wdB_3_3_12 9 _ rfl), dk_180 (dk_at wdB_3_3_12 10 _ rfl) (dk_at wdB_3_3_12 11 _ rfl) (dk_at wdB_3_3_12 12 _ rfl) rfl⟩, ⟨dk_21 (dk_at wdB_3_3_12 13 _ rfl) (dk_at wdB_3_3_12 14 _ rfl), dk_42 (dk_at wdB_3_3_12 15 _ rfl)⟩⟩⟩, ⟨⟨⟨dk_180 (dk_at wdB_3_3_12 16 _ rfl) (dk_at wdB_3_3_12 17 _ rfl) (dk_at wdB_3_3_12 18 _ rfl) rfl, dk_16 (dk_at wdB_3_3_12 19 _ rfl) (dk_at wdB_3_3_12 20 _ rfl) (by decide)⟩, ⟨dk_27 (dk_at wdB_3_3_12 21 _ rfl), dk_104 (dk_at wdB_3_3_12 22 _ rfl)⟩⟩, ⟨⟨dk_8 (dk_at wdB_3_3_12 23 _ rfl), dk_28 (dk_at wdB_3_3_12 24 _ rfl)⟩, ⟨dk_104 (dk_at wdB_3_3_12 25 _ rfl), dk_96 (dk_at wdB_3_3_12 26 _ rfl)⟩⟩⟩⟩
theorem wdB_3_3_13 : dk_bw (cX12_copy.data.toList.drop 194) [29, 96, 21, 9, 96, 47, 80, 132, 9, 1, 167, 255, 221, 3, 54, 9, 21, 9, 21, 6, 162, 0, 36, 42, 180, 0, 50, 16, 30] = true := by decide +kernel
theorem dB_3_3_13 : ((((decode cX12_copy 194 = .ok (.iload_n 3, 1)) ∧ (decode cX12_copy 195 = .ok (.iadd, 1))) ∧ ((decode cX12_copy 196 = .ok (.iload 9, 2)) ∧ (decode cX12_copy 198 = .ok (.iadd, 1)))) ∧ (((decode cX12_copy 199 = .ok (.laload, 1)) ∧ (decode cX12_copy 200 = .ok (.lastore, 1))) ∧ ((decode cX12_copy 201 = .ok (.iinc 9 1, 3)) ∧ (decode cX12_copy 204 = .ok (.goto (-35), 3))))) ∧ ((((decode cX12_copy 207 = .ok (.iconst 0, 1)) ∧ (decode cX12_copy 208 = .ok (.istore 9, 2))) ∧ ((decode cX12_copy 210 = .ok (.iload 9, 2)) ∧ (decode cX12_copy 212 = .ok (.iload 6, 2)))) ∧ (((decode cX12_copy 214 = .ok (.if_icmp .ge 36, 3)) ∧ (decode cX12_copy 217 = .ok (.aload_n 0, 1))) ∧ ((decode cX12_copy 218 = .ok (.getfield 50, 3)) ∧ (decode cX12_copy 221 = .ok (.bipush 30, 2))))) := ⟨⟨⟨⟨dk_29 (dk_at wdB_3_3_13 0 _ rfl), dk_96 (dk_at wdB_3_3_13 1 _ rfl)⟩, ⟨dk_21 (dk_at wdB_3_3_13 2 _ rfl) (dk_at wdB_3_3_13 3 _ rfl), dk_96 (dk_at wdB_3_3_13 4 _ rfl)⟩⟩, ⟨⟨dk_47 (dk_at wdB_3_3_13 5 _ rfl), dk_80 (dk_at wdB_3_3_13 6 _ rfl)⟩, ⟨dk_132 (dk_at wdB_3_3_13 7 _ rfl) (dk_at wdB_3_3_13 8 _ rfl) (dk_at wdB_3_3_13 9 _ rfl) (by decide), dk_167 (dk_at wdB_3_3_13 10 _ rfl) (dk_at wdB_3_3_13 11 _ rfl) (dk_at wdB_3_3_13 12 _ rfl) (by decide)⟩⟩⟩, ⟨⟨⟨dk_3 (dk_at wdB_3_3_13 13 _ rfl), dk_54 (dk_at wdB_3_3_13 14 _ rfl) (dk_at wdB_3_3_13 15 _ rfl)⟩, ⟨dk_21 (dk_at wdB_3_3_13 16 _ rfl) (dk_at wdB_3_3_13 17 _ rfl), dk_21 (dk_at wdB_3_3_13 18 _ rfl) (dk_at wdB_3_3_13 19 _ rfl)⟩⟩, ⟨⟨dk_162 (dk_at wdB_3_3_13 20 _ rfl) (dk_at wdB_3_3_13 21 _ rfl) (dk_at wdB_3_3_13 22 _ rfl) (by decide), dk_42 (dk_at wdB_3_3_13 23 _ rfl)⟩, ⟨dk_180 (dk_at wdB_3_3_13 24 _ rfl) (dk_at wdB_3_3_13 25 _ rfl) (dk_at wdB_3_3_13 26 _ rfl) rfl, dk_16 (dk_at wdB_3_3_13 27 _ rfl) (dk_at wdB_3_3_13 28 _ rfl) (by decide)⟩⟩⟩⟩
theorem wdB_3_3_14 : dk_bw (cX12_copy.data.toList.drop 223) [27, 104, 8, 21, 4, 104, 96, 21, 5, 96, 21, 9, 96, 42, 180, 0, 54, 21, 9, 47, 80, 132, 9, 1] = true := by decide +kernel
theorem dB_3_3_14 : ((((decode cX12_copy 223 = .ok (.iload_n 1, 1)) ∧ (decode cX12_copy 224 = .ok (.imul, 1))) ∧ ((decode cX12_copy 225 = .ok (.iconst 5, 1)) ∧ (decode cX12_copy 226 = .ok (.iload 4, 2)))) ∧ (((decode cX12_copy 228 = .ok (.imul, 1)) ∧ (decode cX12_copy 229 = .ok (.iadd, 1))) ∧ ((decode cX12_copy 230 = .ok (.iload 5, 2)) ∧ (decode cX12_copy 232 = .ok (.iadd, 1))))) ∧ ((((decode cX12_copy 233 = .ok (.iload 9, 2)) ∧ (decode cX12_copy 235 = .ok (.iadd, 1))) ∧ ((decode cX12_copy 236 = .ok (.aload_n 0, 1)) ∧ (decode cX12_copy 237 = .ok (.getfield 54, 3)))) ∧ (((decode cX12_copy 240 = .ok (.iload 9, 2)) ∧ (decode cX12_copy 242 = .ok (.laload, 1))) ∧ ((decode cX12_copy 243 = .ok (.lastore, 1)) ∧ (decode cX12_copy 244 = .ok (.iinc 9 1, 3))))) := ⟨⟨⟨⟨dk_27 (dk_at wdB_3_3_14 0 _ rfl), dk_104 (dk_at wdB_3_3_14 1 _ rfl)⟩, ⟨dk_8 (dk_at wdB_3_3_14 2 _ rfl), dk_21 (dk_at wdB_3_3_14 3 _ rfl) (dk_at wdB_3_3_14 4 _ rfl)⟩⟩, ⟨⟨dk_104 (dk_at wdB_3_3_14 5 _ rfl), dk_96 (dk_at wdB_3_3_14 6 _ rfl)⟩, ⟨dk_21 (dk_at wdB_3_3_14 7 _ rfl) (dk_at wdB_3_3_14 8 _ rfl), dk_96 (dk_at wdB_3_3_14 9 _ rfl)⟩⟩⟩, ⟨⟨⟨dk_21 (dk_at wdB_3_3_14 10 _ rfl) (dk_at wdB_3_3_14 11 _ rfl), dk_96 (dk_at wdB_3_3_14 12 _ rfl)⟩, ⟨dk_42 (dk_at wdB_3_3_14 13 _ rfl), dk_180 (dk_at wdB_3_3_14 14 _ rfl) (dk_at wdB_3_3_14 15 _ rfl) (dk_at wdB_3_3_14 16 _ rfl) rfl⟩⟩, ⟨⟨dk_21 (dk_at wdB_3_3_14 17 _ rfl) (dk_at wdB_3_3_14 18 _ rfl), dk_47 (dk_at wdB_3_3_14 19 _ rfl)⟩, ⟨dk_80 (dk_at wdB_3_3_14 20 _ rfl), dk_132 (dk_at wdB_3_3_14 21 _ rfl) (dk_at wdB_3_3_14 22 _ rfl) (dk_at wdB_3_3_14 23 _ rfl) (by decide)⟩⟩⟩⟩
theorem wdB_3_3_15 : dk_bw (cX12_copy.data.toList.drop 247) [167, 255, 219, 21, 6, 172] = true := by decide +kernel
theorem dB_3_3_15 : (decode cX12_copy 247 = .ok (.goto (-37), 3)) ∧ ((decode cX12_copy 250 = .ok (.iload 6, 2)) ∧ (decode cX12_copy 252 = .ok (.ireturn, 1))) := ⟨dk_167 (dk_at wdB_3_3_15 0 _ rfl) (dk_at wdB_3_3_15 1 _ rfl) (dk_at wdB_3_3_15 2 _ rfl) (by decide), ⟨dk_21 (dk_at wdB_3_3_15 3 _ rfl) (dk_at wdB_3_3_15 4 _ rfl), dk_172 (dk_at wdB_3_3_15 5 _ rfl)⟩⟩
theorem wdB_3_3_16 : dk_bw (cX12_dense.data.toList.drop 101) [126, 4, 160, 0, 13, 42, 180, 0, 19, 21, 6, 46, 167, 0, 4, 3, 96, 54, 5, 132, 6, 1, 167, 255, 186, 21, 5, 133, 28] = true := by decide +kernel
theorem dB_3_3_16 : ((((decode cX12_dense 101 = .ok (.iand, 1)) ∧ (decode cX12_dense 102 = .ok (.iconst 1, 1))) ∧ ((decode cX12_dense 103 = .ok (.if_icmp .ne 13, 3)) ∧ (decode cX12_dense 106 = .ok (.aload_n 0, 1)))) ∧ (((decode cX12_dense 107 = .ok (.getfield 19, 3)) ∧ (decode cX12_dense 110 = .ok (.iload 6, 2))) ∧ ((decode cX12_dense 112 = .ok (.iaload, 1)) ∧ (decode cX12_dense 113 = .ok (.goto 4, 3))))) ∧ ((((decode cX12_dense 116 = .ok (.iconst 0, 1)) ∧ (decode cX12_dense 117 = .ok (.iadd, 1))) ∧ ((decode cX12_dense 118 = .ok (.istore 5, 2)) ∧ (decode cX12_dense 120 = .ok (.iinc 6 1, 3)))) ∧ (((decode cX12_dense 123 = .ok (.goto (-70), 3)) ∧ (decode cX12_dense 126 = .ok (.iload 5, 2))) ∧ ((decode cX12_dense 128 = .ok (.i2l, 1)) ∧ (decode cX12_dense 129 = .ok (.iload_n 2, 1))))) := ⟨⟨⟨⟨dk_126 (dk_at wdB_3_3_16 0 _ rfl), dk_4 (dk_at wdB_3_3_16 1 _ rfl)⟩, ⟨dk_160 (dk_at wdB_3_3_16 2 _ rfl) (dk_at wdB_3_3_16 3 _ rfl) (dk_at wdB_3_3_16 4 _ rfl) (by decide), dk_42 (dk_at wdB_3_3_16 5 _ rfl)⟩⟩, ⟨⟨dk_180 (dk_at wdB_3_3_16 6 _ rfl) (dk_at wdB_3_3_16 7 _ rfl) (dk_at wdB_3_3_16 8 _ rfl) rfl, dk_21 (dk_at wdB_3_3_16 9 _ rfl) (dk_at wdB_3_3_16 10 _ rfl)⟩, ⟨dk_46 (dk_at wdB_3_3_16 11 _ rfl), dk_167 (dk_at wdB_3_3_16 12 _ rfl) (dk_at wdB_3_3_16 13 _ rfl) (dk_at wdB_3_3_16 14 _ rfl) (by decide)⟩⟩⟩, ⟨⟨⟨dk_3 (dk_at wdB_3_3_16 15 _ rfl), dk_96 (dk_at wdB_3_3_16 16 _ rfl)⟩, ⟨dk_54 (dk_at wdB_3_3_16 17 _ rfl) (dk_at wdB_3_3_16 18 _ rfl), dk_132 (dk_at wdB_3_3_16 19 _ rfl) (dk_at wdB_3_3_16 20 _ rfl) (dk_at wdB_3_3_16 21 _ rfl) (by decide)⟩⟩, ⟨⟨dk_167 (dk_at wdB_3_3_16 22 _ rfl) (dk_at wdB_3_3_16 23 _ rfl) (dk_at wdB_3_3_16 24 _ rfl) (by decide), dk_21 (dk_at wdB_3_3_16 25 _ rfl) (dk_at wdB_3_3_16 26 _ rfl)⟩, ⟨dk_133 (dk_at wdB_3_3_16 27 _ rfl), dk_28 (dk_at wdB_3_3_16 28 _ rfl)⟩⟩⟩⟩
theorem wdB_3_3_17 : dk_bw (cX12_dense.data.toList.drop 130) [184, 0, 204, 133, 105, 29, 133, 21, 4, 184, 0, 204, 133, 105, 101, 55, 6, 28, 153, 0, 29, 22, 6, 9, 148] = true := by decide +kernel
theorem dB_3_3_17 : ((((decode cX12_dense 130 = .ok (.invokestatic 204, 3)) ∧ (decode cX12_dense 133 = .ok (.i2l, 1))) ∧ ((decode cX12_dense 134 = .ok (.lmul, 1)) ∧ (decode cX12_dense 135 = .ok (.iload_n 3, 1)))) ∧ (((decode cX12_dense 136 = .ok (.i2l, 1)) ∧ (decode cX12_dense 137 = .ok (.iload 4, 2))) ∧ ((decode cX12_dense 139 = .ok (.invokestatic 204, 3)) ∧ (decode cX12_dense 142 = .ok (.i2l, 1))))) ∧ ((((decode cX12_dense 143 = .ok (.lmul, 1)) ∧ (decode cX12_dense 144 = .ok (.lsub, 1))) ∧ ((decode cX12_dense 145 = .ok (.lstore 6, 2)) ∧ (decode cX12_dense 147 = .ok (.iload_n 2, 1)))) ∧ (((decode cX12_dense 148 = .ok (.ifCond .eq 29, 3)) ∧ (decode cX12_dense 151 = .ok (.lload 6, 2))) ∧ ((decode cX12_dense 153 = .ok (.lconst 0, 1)) ∧ (decode cX12_dense 154 = .ok (.lcmp, 1))))) := ⟨⟨⟨⟨dk_184 (dk_at wdB_3_3_17 0 _ rfl) (dk_at wdB_3_3_17 1 _ rfl) (dk_at wdB_3_3_17 2 _ rfl) rfl, dk_133 (dk_at wdB_3_3_17 3 _ rfl)⟩, ⟨dk_105 (dk_at wdB_3_3_17 4 _ rfl), dk_29 (dk_at wdB_3_3_17 5 _ rfl)⟩⟩, ⟨⟨dk_133 (dk_at wdB_3_3_17 6 _ rfl), dk_21 (dk_at wdB_3_3_17 7 _ rfl) (dk_at wdB_3_3_17 8 _ rfl)⟩, ⟨dk_184 (dk_at wdB_3_3_17 9 _ rfl) (dk_at wdB_3_3_17 10 _ rfl) (dk_at wdB_3_3_17 11 _ rfl) rfl, dk_133 (dk_at wdB_3_3_17 12 _ rfl)⟩⟩⟩, ⟨⟨⟨dk_105 (dk_at wdB_3_3_17 13 _ rfl), dk_101 (dk_at wdB_3_3_17 14 _ rfl)⟩, ⟨dk_55 (dk_at wdB_3_3_17 15 _ rfl) (dk_at wdB_3_3_17 16 _ rfl), dk_28 (dk_at wdB_3_3_17 17 _ rfl)⟩⟩, ⟨⟨dk_153 (dk_at wdB_3_3_17 18 _ rfl) (dk_at wdB_3_3_17 19 _ rfl) (dk_at wdB_3_3_17 20 _ rfl) (by decide), dk_22 (dk_at wdB_3_3_17 21 _ rfl) (dk_at wdB_3_3_17 22 _ rfl)⟩, ⟨dk_9 (dk_at wdB_3_3_17 23 _ rfl), dk_148 (dk_at wdB_3_3_17 24 _ rfl)⟩⟩⟩⟩
theorem wdB_3_3_18 : dk_bw (cX12_dense.data.toList.drop 155) [157, 0, 22, 22, 6, 9, 148, 154, 0, 21, 21, 4, 184, 0, 204, 28, 184, 0, 204, 164, 0, 9, 21, 4, 61, 21, 5, 62, 132, 4, 1, 167, 255, 106] = true := by decide +kernel
theorem dB_3_3_18 : ((((decode cX12_dense 155 = .ok (.ifCond .gt 22, 3)) ∧ (decode cX12_dense 158 = .ok (.lload 6, 2))) ∧ ((decode cX12_dense 160 = .ok (.lconst 0, 1)) ∧ (decode cX12_dense 161 = .ok (.lcmp, 1)))) ∧ (((decode cX12_dense 162 = .ok (.ifCond .ne 21, 3)) ∧ (decode cX12_dense 165 = .ok (.iload 4, 2))) ∧ ((decode cX12_dense 167 = .ok (.invokestatic 204, 3)) ∧ (decode cX12_dense 170 = .ok (.iload_n 2, 1))))) ∧ ((((decode cX12_dense 171 = .ok (.invokestatic 204, 3)) ∧ (decode cX12_dense 174 = .ok (.if_icmp .le 9, 3))) ∧ ((decode cX12_dense 177 = .ok (.iload 4, 2)) ∧ (decode cX12_dense 179 = .ok (.istore_n 2, 1)))) ∧ (((decode cX12_dense 180 = .ok (.iload 5, 2)) ∧ (decode cX12_dense 182 = .ok (.istore_n 3, 1))) ∧ ((decode cX12_dense 183 = .ok (.iinc 4 1, 3)) ∧ (decode cX12_dense 186 = .ok (.goto (-150), 3))))) := ⟨⟨⟨⟨dk_157 (dk_at wdB_3_3_18 0 _ rfl) (dk_at wdB_3_3_18 1 _ rfl) (dk_at wdB_3_3_18 2 _ rfl) (by decide), dk_22 (dk_at wdB_3_3_18 3 _ rfl) (dk_at wdB_3_3_18 4 _ rfl)⟩, ⟨dk_9 (dk_at wdB_3_3_18 5 _ rfl), dk_148 (dk_at wdB_3_3_18 6 _ rfl)⟩⟩, ⟨⟨dk_154 (dk_at wdB_3_3_18 7 _ rfl) (dk_at wdB_3_3_18 8 _ rfl) (dk_at wdB_3_3_18 9 _ rfl) (by decide), dk_21 (dk_at wdB_3_3_18 10 _ rfl) (dk_at wdB_3_3_18 11 _ rfl)⟩, ⟨dk_184 (dk_at wdB_3_3_18 12 _ rfl) (dk_at wdB_3_3_18 13 _ rfl) (dk_at wdB_3_3_18 14 _ rfl) rfl, dk_28 (dk_at wdB_3_3_18 15 _ rfl)⟩⟩⟩, ⟨⟨⟨dk_184 (dk_at wdB_3_3_18 16 _ rfl) (dk_at wdB_3_3_18 17 _ rfl) (dk_at wdB_3_3_18 18 _ rfl) rfl, dk_164 (dk_at wdB_3_3_18 19 _ rfl) (dk_at wdB_3_3_18 20 _ rfl) (dk_at wdB_3_3_18 21 _ rfl) (by decide)⟩, ⟨dk_21 (dk_at wdB_3_3_18 22 _ rfl) (dk_at wdB_3_3_18 23 _ rfl), dk_61 (dk_at wdB_3_3_18 24 _ rfl)⟩⟩, ⟨⟨dk_21 (dk_at wdB_3_3_18 25 _ rfl) (dk_at wdB_3_3_18 26 _ rfl), dk_62 (dk_at wdB_3_3_18 27 _ rfl)⟩, ⟨dk_132 (dk_at wdB_3_3_18 28 _ rfl) (dk_at wdB_3_3_18 29 _ rfl) (dk_at wdB_3_3_18 30 _ rfl) (by decide), dk_167 (dk_at wdB_3_3_18 31 _ rfl) (dk_at wdB_3_3_18 32 _ rfl) (dk_at wdB_3_3_18 33 _ rfl) (by decide)⟩⟩⟩⟩
theorem wdB_3_3_19 : dk_bw (cX12_dense.data.toList.drop 189) [27, 154, 0, 7, 28, 167, 0, 16, 27, 4, 160, 0, 7, 29, 167, 0, 7, 28, 184, 0, 204, 172] = true := by decide +kernel
theorem dB_3_3_19 : (((decode cX12_dense 189 = .ok (.iload_n 1, 1)) ∧ ((decode cX12_dense 190 = .ok (.ifCond .ne 7, 3)) ∧ (decode cX12_dense 193 = .ok (.iload_n 2, 1)))) ∧ ((decode cX12_dense 194 = .ok (.goto 16, 3)) ∧ ((decode cX12_dense 197 = .ok (.iload_n 1, 1)) ∧ (decode cX12_dense 198 = .ok (.iconst 1, 1))))) ∧ (((decode cX12_dense 199 = .ok (.if_icmp .ne 7, 3)) ∧ ((decode cX12_dense 202 = .ok (.iload_n 3, 1)) ∧ (decode cX12_dense 203 = .ok (.goto 7, 3)))) ∧ ((decode cX12_dense 206 = .ok (.iload_n 2, 1)) ∧ ((decode cX12_dense 207 = .ok (.invokestatic 204, 3)) ∧ (decode cX12_dense 210 = .ok (.ireturn, 1))))) := ⟨⟨⟨dk_27 (dk_at wdB_3_3_19 0 _ rfl), ⟨dk_154 (dk_at wdB_3_3_19 1 _ rfl) (dk_at wdB_3_3_19 2 _ rfl) (dk_at wdB_3_3_19 3 _ rfl) (by decide), dk_28 (dk_at wdB_3_3_19 4 _ rfl)⟩⟩, ⟨dk_167 (dk_at wdB_3_3_19 5 _ rfl) (dk_at wdB_3_3_19 6 _ rfl) (dk_at wdB_3_3_19 7 _ rfl) (by decide), ⟨dk_27 (dk_at wdB_3_3_19 8 _ rfl), dk_4 (dk_at wdB_3_3_19 9 _ rfl)⟩⟩⟩, ⟨⟨dk_160 (dk_at wdB_3_3_19 10 _ rfl) (dk_at wdB_3_3_19 11 _ rfl) (dk_at wdB_3_3_19 12 _ rfl) (by decide), ⟨dk_29 (dk_at wdB_3_3_19 13 _ rfl), dk_167 (dk_at wdB_3_3_19 14 _ rfl) (dk_at wdB_3_3_19 15 _ rfl) (dk_at wdB_3_3_19 16 _ rfl) (by decide)⟩⟩, ⟨dk_28 (dk_at wdB_3_3_19 17 _ rfl), ⟨dk_184 (dk_at wdB_3_3_19 18 _ rfl) (dk_at wdB_3_3_19 19 _ rfl) (dk_at wdB_3_3_19 20 _ rfl) rfl, dk_172 (dk_at wdB_3_3_19 21 _ rfl)⟩⟩⟩⟩
theorem wdB_3_3_20 : dk_bw (cX12_item.data.toList.drop 0) [42, 3, 181, 0, 85, 42, 42, 27, 28, 29, 21, 4, 182, 0, 248, 181, 0, 240, 42, 180, 0, 240, 156, 0, 7, 9, 167, 0, 19] = true := by decide +kernel
theorem dB_3_3_20 : ((((decode cX12_item 0 = .ok (.aload_n 0, 1)) ∧ (decode cX12_item 1 = .ok (.iconst 0, 1))) ∧ ((decode cX12_item 2 = .ok (.putfield 85, 3)) ∧ (decode cX12_item 5 = .ok (.aload_n 0, 1)))) ∧ (((decode cX12_item 6 = .ok (.aload_n 0, 1)) ∧ (decode cX12_item 7 = .ok (.iload_n 1, 1))) ∧ ((decode cX12_item 8 = .ok (.iload_n 2, 1)) ∧ (decode cX12_item 9 = .ok (.iload_n 3, 1))))) ∧ ((((decode cX12_item 10 = .ok (.iload 4, 2)) ∧ (decode cX12_item 12 = .ok (.invokevirtual 248, 3))) ∧ ((decode cX12_item 15 = .ok (.putfield 240, 3)) ∧ (decode cX12_item 18 = .ok (.aload_n 0, 1)))) ∧ (((decode cX12_item 19 = .ok (.getfield 240, 3)) ∧ (decode cX12_item 22 = .ok (.ifCond .ge 7, 3))) ∧ ((decode cX12_item 25 = .ok (.lconst 0, 1)) ∧ (decode cX12_item 26 = .ok (.goto 19, 3))))) := ⟨⟨⟨⟨dk_42 (dk_at wdB_3_3_20 0 _ rfl), dk_3 (dk_at wdB_3_3_20 1 _ rfl)⟩, ⟨dk_181 (dk_at wdB_3_3_20 2 _ rfl) (dk_at wdB_3_3_20 3 _ rfl) (dk_at wdB_3_3_20 4 _ rfl) rfl, dk_42 (dk_at wdB_3_3_20 5 _ rfl)⟩⟩, ⟨⟨dk_42 (dk_at wdB_3_3_20 6 _ rfl), dk_27 (dk_at wdB_3_3_20 7 _ rfl)⟩, ⟨dk_28 (dk_at wdB_3_3_20 8 _ rfl), dk_29 (dk_at wdB_3_3_20 9 _ rfl)⟩⟩⟩, ⟨⟨⟨dk_21 (dk_at wdB_3_3_20 10 _ rfl) (dk_at wdB_3_3_20 11 _ rfl), dk_182 (dk_at wdB_3_3_20 12 _ rfl) (dk_at wdB_3_3_20 13 _ rfl) (dk_at wdB_3_3_20 14 _ rfl) rfl⟩, ⟨dk_181 (dk_at wdB_3_3_20 15 _ rfl) (dk_at wdB_3_3_20 16 _ rfl) (dk_at wdB_3_3_20 17 _ rfl) rfl, dk_42 (dk_at wdB_3_3_20 18 _ rfl)⟩⟩, ⟨⟨dk_180 (dk_at wdB_3_3_20 19 _ rfl) (dk_at wdB_3_3_20 20 _ rfl) (dk_at wdB_3_3_20 21 _ rfl) rfl, dk_156 (dk_at wdB_3_3_20 22 _ rfl) (dk_at wdB_3_3_20 23 _ rfl) (dk_at wdB_3_3_20 24 _ rfl) (by decide)⟩, ⟨dk_9 (dk_at wdB_3_3_20 25 _ rfl), dk_167 (dk_at wdB_3_3_20 26 _ rfl) (dk_at wdB_3_3_20 27 _ rfl) (dk_at wdB_3_3_20 28 _ rfl) (by decide)⟩⟩⟩⟩
theorem wdB_3_3_21 : dk_bw (cX12_item.data.toList.drop 29) [42, 180, 0, 50, 16, 30, 27, 104, 8, 29, 104, 96, 21, 4, 96, 47, 173] = true := by decide +kernel
theorem dB_3_3_21 : (((decode cX12_item 29 = .ok (.aload_n 0, 1)) ∧ ((decode cX12_item 30 = .ok (.getfield 50, 3)) ∧ (decode cX12_item 33 = .ok (.bipush 30, 2)))) ∧ ((decode cX12_item 35 = .ok (.iload_n 1, 1)) ∧ ((decode cX12_item 36 = .ok (.imul, 1)) ∧ (decode cX12_item 37 = .ok (.iconst 5, 1))))) ∧ (((decode cX12_item 38 = .ok (.iload_n 3, 1)) ∧ ((decode cX12_item 39 = .ok (.imul, 1)) ∧ (decode cX12_item 40 = .ok (.iadd, 1)))) ∧ (((decode cX12_item 41 = .ok (.iload 4, 2)) ∧ (decode cX12_item 43 = .ok (.iadd, 1))) ∧ ((decode cX12_item 44 = .ok (.laload, 1)) ∧ (decode cX12_item 45 = .ok (.lreturn, 1))))) := ⟨⟨⟨dk_42 (dk_at wdB_3_3_21 0 _ rfl), ⟨dk_180 (dk_at wdB_3_3_21 1 _ rfl) (dk_at wdB_3_3_21 2 _ rfl) (dk_at wdB_3_3_21 3 _ rfl) rfl, dk_16 (dk_at wdB_3_3_21 4 _ rfl) (dk_at wdB_3_3_21 5 _ rfl) (by decide)⟩⟩, ⟨dk_27 (dk_at wdB_3_3_21 6 _ rfl), ⟨dk_104 (dk_at wdB_3_3_21 7 _ rfl), dk_8 (dk_at wdB_3_3_21 8 _ rfl)⟩⟩⟩, ⟨⟨dk_29 (dk_at wdB_3_3_21 9 _ rfl), ⟨dk_104 (dk_at wdB_3_3_21 10 _ rfl), dk_96 (dk_at wdB_3_3_21 11 _ rfl)⟩⟩, ⟨⟨dk_21 (dk_at wdB_3_3_21 12 _ rfl) (dk_at wdB_3_3_21 13 _ rfl), dk_96 (dk_at wdB_3_3_21 14 _ rfl)⟩, ⟨dk_47 (dk_at wdB_3_3_21 15 _ rfl), dk_173 (dk_at wdB_3_3_21 16 _ rfl)⟩⟩⟩⟩
theorem wdB_3_3_22 : dk_bw (cX12_map.data.toList.drop 0) [42, 3, 181, 0, 85, 42, 3, 181, 0, 240, 27, 133, 9, 20, 0, 243, 184, 0, 91, 153, 0, 21, 28, 133, 9, 20, 0, 149] = true := by decide +kernel
theorem dB_3_3_22 : ((((decode cX12_map 0 = .ok (.aload_n 0, 1)) ∧ (decode cX12_map 1 = .ok (.iconst 0, 1))) ∧ ((decode cX12_map 2 = .ok (.putfield 85, 3)) ∧ (decode cX12_map 5 = .ok (.aload_n 0, 1)))) ∧ (((decode cX12_map 6 = .ok (.iconst 0, 1)) ∧ (decode cX12_map 7 = .ok (.putfield 240, 3))) ∧ ((decode cX12_map 10 = .ok (.iload_n 1, 1)) ∧ (decode cX12_map 11 = .ok (.i2l, 1))))) ∧ ((((decode cX12_map 12 = .ok (.lconst 0, 1)) ∧ (decode cX12_map 13 = .ok (.ldc2_w 243, 3))) ∧ ((decode cX12_map 16 = .ok (.invokestatic 91, 3)) ∧ (decode cX12_map 19 = .ok (.ifCond .eq 21, 3)))) ∧ (((decode cX12_map 22 = .ok (.iload_n 2, 1)) ∧ (decode cX12_map 23 = .ok (.i2l, 1))) ∧ ((decode cX12_map 24 = .ok (.lconst 0, 1)) ∧ (decode cX12_map 25 = .ok (.ldc2_w 149, 3))))) := ⟨⟨⟨⟨dk_42 (dk_at wdB_3_3_22 0 _ rfl), dk_3 (dk_at wdB_3_3_22 1 _ rfl)⟩, ⟨dk_181 (dk_at wdB_3_3_22 2 _ rfl) (dk_at wdB_3_3_22 3 _ rfl) (dk_at wdB_3_3_22 4 _ rfl) rfl, dk_42 (dk_at wdB_3_3_22 5 _ rfl)⟩⟩, ⟨⟨dk_3 (dk_at wdB_3_3_22 6 _ rfl), dk_181 (dk_at wdB_3_3_22 7 _ rfl) (dk_at wdB_3_3_22 8 _ rfl) (dk_at wdB_3_3_22 9 _ rfl) rfl⟩, ⟨dk_27 (dk_at wdB_3_3_22 10 _ rfl), dk_133 (dk_at wdB_3_3_22 11 _ rfl)⟩⟩⟩, ⟨⟨⟨dk_9 (dk_at wdB_3_3_22 12 _ rfl), dk_20 (dk_at wdB_3_3_22 13 _ rfl) (dk_at wdB_3_3_22 14 _ rfl) (dk_at wdB_3_3_22 15 _ rfl) rfl⟩, ⟨dk_184 (dk_at wdB_3_3_22 16 _ rfl) (dk_at wdB_3_3_22 17 _ rfl) (dk_at wdB_3_3_22 18 _ rfl) rfl, dk_153 (dk_at wdB_3_3_22 19 _ rfl) (dk_at wdB_3_3_22 20 _ rfl) (dk_at wdB_3_3_22 21 _ rfl) (by decide)⟩⟩, ⟨⟨dk_28 (dk_at wdB_3_3_22 22 _ rfl), dk_133 (dk_at wdB_3_3_22 23 _ rfl)⟩, ⟨dk_9 (dk_at wdB_3_3_22 24 _ rfl), dk_20 (dk_at wdB_3_3_22 25 _ rfl) (dk_at wdB_3_3_22 26 _ rfl) (dk_at wdB_3_3_22 27 _ rfl) rfl⟩⟩⟩⟩
theorem wdB_3_3_23 : dk_bw (cX12_map.data.toList.drop 28) [184, 0, 91, 153, 0, 9, 29, 16, 6, 164, 0, 9, 42, 2, 182, 0, 245, 172, 29, 156, 0, 10, 42, 16, 241, 182, 0, 245, 172, 42] = true := by decide +kernel
theorem dB_3_3_23 : ((((decode cX12_map 28 = .ok (.invokestatic 91, 3)) ∧ (decode cX12_map 31 = .ok (.ifCond .eq 9, 3))) ∧ ((decode cX12_map 34 = .ok (.iload_n 3, 1)) ∧ (decode cX12_map 35 = .ok (.bipush 6, 2)))) ∧ (((decode cX12_map 37 = .ok (.if_icmp .le 9, 3)) ∧ (decode cX12_map 40 = .ok (.aload_n 0, 1))) ∧ ((decode cX12_map 41 = .ok (.iconst (-1), 1)) ∧ (decode cX12_map 42 = .ok (.invokevirtual 245, 3))))) ∧ ((((decode cX12_map 45 = .ok (.ireturn, 1)) ∧ (decode cX12_map 46 = .ok (.iload_n 3, 1))) ∧ ((decode cX12_map 47 = .ok (.ifCond .ge 10, 3)) ∧ (decode cX12_map 50 = .ok (.aload_n 0, 1)))) ∧ (((decode cX12_map 51 = .ok (.bipush (-15), 2)) ∧ (decode cX12_map 53 = .ok (.invokevirtual 245, 3))) ∧ ((decode cX12_map 56 = .ok (.ireturn, 1)) ∧ (decode cX12_map 57 = .ok (.aload_n 0, 1))))) := ⟨⟨⟨⟨dk_184 (dk_at wdB_3_3_23 0 _ rfl) (dk_at wdB_3_3_23 1 _ rfl) (dk_at wdB_3_3_23 2 _ rfl) rfl, dk_153 (dk_at wdB_3_3_23 3 _ rfl) (dk_at wdB_3_3_23 4 _ rfl) (dk_at wdB_3_3_23 5 _ rfl) (by decide)⟩, ⟨dk_29 (dk_at wdB_3_3_23 6 _ rfl), dk_16 (dk_at wdB_3_3_23 7 _ rfl) (dk_at wdB_3_3_23 8 _ rfl) (by decide)⟩⟩, ⟨⟨dk_164 (dk_at wdB_3_3_23 9 _ rfl) (dk_at wdB_3_3_23 10 _ rfl) (dk_at wdB_3_3_23 11 _ rfl) (by decide), dk_42 (dk_at wdB_3_3_23 12 _ rfl)⟩, ⟨dk_2 (dk_at wdB_3_3_23 13 _ rfl), dk_182 (dk_at wdB_3_3_23 14 _ rfl) (dk_at wdB_3_3_23 15 _ rfl) (dk_at wdB_3_3_23 16 _ rfl) rfl⟩⟩⟩, ⟨⟨⟨dk_172 (dk_at wdB_3_3_23 17 _ rfl), dk_29 (dk_at wdB_3_3_23 18 _ rfl)⟩, ⟨dk_156 (dk_at wdB_3_3_23 19 _ rfl) (dk_at wdB_3_3_23 20 _ rfl) (dk_at wdB_3_3_23 21 _ rfl) (by decide), dk_42 (dk_at wdB_3_3_23 22 _ rfl)⟩⟩, ⟨⟨dk_16 (dk_at wdB_3_3_23 23 _ rfl) (dk_at wdB_3_3_23 24 _ rfl) (by decide), dk_182 (dk_at wdB_3_3_23 25 _ rfl) (dk_at wdB_3_3_23 26 _ rfl) (dk_at wdB_3_3_23 27 _ rfl) rfl⟩, ⟨dk_172 (dk_at wdB_3_3_23 28 _ rfl), dk_42 (dk_at wdB_3_3_23 29 _ rfl)⟩⟩⟩⟩
theorem wdB_3_3_24 : dk_bw (cX12_map.data.toList.drop 58) [180, 0, 38, 27, 4, 84, 42, 180, 0, 41, 27, 28, 79, 42, 180, 0, 44, 27, 29, 79, 3, 54, 4] = true := by decide +kernel
theorem dB_3_3_24 : ((((decode cX12_map 58 = .ok (.getfield 38, 3)) ∧ (decode cX12_map 61 = .ok (.iload_n 1, 1))) ∧ ((decode cX12_map 62 = .ok (.iconst 1, 1)) ∧ (decode cX12_map 63 = .ok (.bastore, 1)))) ∧ (((decode cX12_map 64 = .ok (.aload_n 0, 1)) ∧ (decode cX12_map 65 = .ok (.getfield 41, 3))) ∧ ((decode cX12_map 68 = .ok (.iload_n 1, 1)) ∧ (decode cX12_map 69 = .ok (.iload_n 2, 1))))) ∧ ((((decode cX12_map 70 = .ok (.iastore, 1)) ∧ (decode cX12_map 71 = .ok (.aload_n 0, 1))) ∧ ((decode cX12_map 72 = .ok (.getfield 44, 3)) ∧ (decode cX12_map 75 = .ok (.iload_n 1, 1)))) ∧ (((decode cX12_map 76 = .ok (.iload_n 3, 1)) ∧ (decode cX12_map 77 = .ok (.iastore, 1))) ∧ ((decode cX12_map 78 = .ok (.iconst 0, 1)) ∧ (decode cX12_map 79 = .ok (.istore 4, 2))))) := ⟨⟨⟨⟨dk_180 (dk_at wdB_3_3_24 0 _ rfl) (dk_at wdB_3_3_24 1 _ rfl) (dk_at wdB_3_3_24 2 _ rfl) rfl, dk_27 (dk_at wdB_3_3_24 3 _ rfl)⟩, ⟨dk_4 (dk_at wdB_3_3_24 4 _ rfl), dk_84 (dk_at wdB_3_3_24 5 _ rfl)⟩⟩, ⟨⟨dk_42 (dk_at wdB_3_3_24 6 _ rfl), dk_180 (dk_at wdB_3_3_24 7 _ rfl) (dk_at wdB_3_3_24 8 _ rfl) (dk_at wdB_3_3_24 9 _ rfl) rfl⟩, ⟨dk_27 (dk_at wdB_3_3_24 10 _ rfl), dk_28 (dk_at wdB_3_3_24 11 _ rfl)⟩⟩⟩, ⟨⟨⟨dk_79 (dk_at wdB_3_3_24 12 _ rfl), dk_42 (dk_at wdB_3_3_24 13 _ rfl)⟩, ⟨dk_180 (dk_at wdB_3_3_24 14 _ rfl) (dk_at wdB_3_3_24 15 _ rfl) (dk_at wdB_3_3_24 16 _ rfl) rfl, dk_27 (dk_at wdB_3_3_24 17 _ rfl)⟩⟩, ⟨⟨dk_29 (dk_at wdB_3_3_24 18 _ rfl), dk_79 (dk_at wdB_3_3_24 19 _ rfl)⟩, ⟨dk_3 (dk_at wdB_3_3_24 20 _ rfl), dk_54 (dk_at wdB_3_3_24 21 _ rfl) (dk_at wdB_3_3_24 22 _ rfl)⟩⟩⟩⟩
theorem wdB_3_3_25 : dk_bw (cX12_map.data.toList.drop 81) [21, 4, 16, 6, 162, 0, 23, 42, 180, 0, 47, 16, 6, 27, 104, 21, 4, 96, 16, 247, 79, 132, 4, 1, 167, 255, 232, 4, 172] = true := by decide +kernel
theorem dB_3_3_25 : ((((decode cX12_map 81 = .ok (.iload 4, 2)) ∧ (decode cX12_map 83 = .ok (.bipush 6, 2))) ∧ ((decode cX12_map 85 = .ok (.if_icmp .ge 23, 3)) ∧ (decode cX12_map 88 = .ok (.aload_n 0, 1)))) ∧ (((decode cX12_map 89 = .ok (.getfield 47, 3)) ∧ (decode cX12_map 92 = .ok (.bipush 6, 2))) ∧ ((decode cX12_map 94 = .ok (.iload_n 1, 1)) ∧ (decode cX12_map 95 = .ok (.imul, 1))))) ∧ ((((decode cX12_map 96 = .ok (.iload 4, 2)) ∧ (decode cX12_map 98 = .ok (.iadd, 1))) ∧ ((decode cX12_map 99 = .ok (.bipush (-9), 2)) ∧ (decode cX12_map 101 = .ok (.iastore, 1)))) ∧ (((decode cX12_map 102 = .ok (.iinc 4 1, 3)) ∧ (decode cX12_map 105 = .ok (.goto (-24), 3))) ∧ ((decode cX12_map 108 = .ok (.iconst 1, 1)) ∧ (decode cX12_map 109 = .ok (.ireturn, 1))))) := ⟨⟨⟨⟨dk_21 (dk_at wdB_3_3_25 0 _ rfl) (dk_at wdB_3_3_25 1 _ rfl), dk_16 (dk_at wdB_3_3_25 2 _ rfl) (dk_at wdB_3_3_25 3 _ rfl) (by decide)⟩, ⟨dk_162 (dk_at wdB_3_3_25 4 _ rfl) (dk_at wdB_3_3_25 5 _ rfl) (dk_at wdB_3_3_25 6 _ rfl) (by decide), dk_42 (dk_at wdB_3_3_25 7 _ rfl)⟩⟩, ⟨⟨dk_180 (dk_at wdB_3_3_25 8 _ rfl) (dk_at wdB_3_3_25 9 _ rfl) (dk_at wdB_3_3_25 10 _ rfl) rfl, dk_16 (dk_at wdB_3_3_25 11 _ rfl) (dk_at wdB_3_3_25 12 _ rfl) (by decide)⟩, ⟨dk_27 (dk_at wdB_3_3_25 13 _ rfl), dk_104 (dk_at wdB_3_3_25 14 _ rfl)⟩⟩⟩, ⟨⟨⟨dk_21 (dk_at wdB_3_3_25 15 _ rfl) (dk_at wdB_3_3_25 16 _ rfl), dk_96 (dk_at wdB_3_3_25 17 _ rfl)⟩, ⟨dk_16 (dk_at wdB_3_3_25 18 _ rfl) (dk_at wdB_3_3_25 19 _ rfl) (by decide), dk_79 (dk_at wdB_3_3_25 20 _ rfl)⟩⟩, ⟨⟨dk_132 (dk_at wdB_3_3_25 21 _ rfl) (dk_at wdB_3_3_25 22 _ rfl) (dk_at wdB_3_3_25 23 _ rfl) (by decide), dk_167 (dk_at wdB_3_3_25 24 _ rfl) (dk_at wdB_3_3_25 25 _ rfl) (dk_at wdB_3_3_25 26 _ rfl) (by decide)⟩, ⟨dk_4 (dk_at wdB_3_3_25 27 _ rfl), dk_172 (dk_at wdB_3_3_25 28 _ rfl)⟩⟩⟩⟩
theorem wdB_3_3_26 : dk_bw (cX12_no.data.toList.drop 0) [42, 27, 181, 0, 240, 27, 172] = true := by decide +kernel
theorem dB_3_3_26 : ((decode cX12_no 0 = .ok (.aload_n 0, 1)) ∧ (decode cX12_no 1 = .ok (.iload_n 1, 1))) ∧ ((decode cX12_no 2 = .ok (.putfield 240, 3)) ∧ ((decode cX12_no 5 = .ok (.iload_n 1, 1)) ∧ (decode cX12_no 6 = .ok (.ireturn, 1)))) := ⟨⟨dk_42 (dk_at wdB_3_3_26 0 _ rfl), dk_27 (dk_at wdB_3_3_26 1 _ rfl)⟩, ⟨dk_181 (dk_at wdB_3_3_26 2 _ rfl) (dk_at wdB_3_3_26 3 _ rfl) (dk_at wdB_3_3_26 4 _ rfl) rfl, ⟨dk_27 (dk_at wdB_3_3_26 5 _ rfl), dk_172 (dk_at wdB_3_3_26 6 _ rfl)⟩⟩⟩
theorem wdB_3_3_27 : dk_bw (cX12_put.data.toList.drop 0) [42, 3, 181, 0, 85, 42, 3, 181, 0, 240, 42, 27, 28, 29, 21, 4, 182, 0, 248, 54, 7, 21, 7, 156, 0, 10, 42] = true := by decide +kernel
theorem dB_3_3_27 : ((((decode cX12_put 0 = .ok (.aload_n 0, 1)) ∧ (decode cX12_put 1 = .ok (.iconst 0, 1))) ∧ ((decode cX12_put 2 = .ok (.putfield 85, 3)) ∧ (decode cX12_put 5 = .ok (.aload_n 0, 1)))) ∧ (((decode cX12_put 6 = .ok (.iconst 0, 1)) ∧ (decode cX12_put 7 = .ok (.putfield 240, 3))) ∧ ((decode cX12_put 10 = .ok (.aload_n 0, 1)) ∧ (decode cX12_put 11 = .ok (.iload_n 1, 1))))) ∧ ((((decode cX12_put 12 = .ok (.iload_n 2, 1)) ∧ (decode cX12_put 13 = .ok (.iload_n 3, 1))) ∧ ((decode cX12_put 14 = .ok (.iload 4, 2)) ∧ (decode cX12_put 16 = .ok (.invokevirtual 248, 3)))) ∧ (((decode cX12_put 19 = .ok (.istore 7, 2)) ∧ (decode cX12_put 21 = .ok (.iload 7, 2))) ∧ ((decode cX12_put 23 = .ok (.ifCond .ge 10, 3)) ∧ (decode cX12_put 26 = .ok (.aload_n 0, 1))))) := ⟨⟨⟨⟨dk_42 (dk_at wdB_3_3_27 0 _ rfl), dk_3 (dk_at wdB_3_3_27 1 _ rfl)⟩, ⟨dk_181 (dk_at wdB_3_3_27 2 _ rfl) (dk_at wdB_3_3_27 3 _ rfl) (dk_at wdB_3_3_27 4 _ rfl) rfl, dk_42 (dk_at wdB_3_3_27 5 _ rfl)⟩⟩, ⟨⟨dk_3 (dk_at wdB_3_3_27 6 _ rfl), dk_181 (dk_at wdB_3_3_27 7 _ rfl) (dk_at wdB_3_3_27 8 _ rfl) (dk_at wdB_3_3_27 9 _ rfl) rfl⟩, ⟨dk_42 (dk_at wdB_3_3_27 10 _ rfl), dk_27 (dk_at wdB_3_3_27 11 _ rfl)⟩⟩⟩, ⟨⟨⟨dk_28 (dk_at wdB_3_3_27 12 _ rfl), dk_29 (dk_at wdB_3_3_27 13 _ rfl)⟩, ⟨dk_21 (dk_at wdB_3_3_27 14 _ rfl) (dk_at wdB_3_3_27 15 _ rfl), dk_182 (dk_at wdB_3_3_27 16 _ rfl) (dk_at wdB_3_3_27 17 _ rfl) (dk_at wdB_3_3_27 18 _ rfl) rfl⟩⟩, ⟨⟨dk_54 (dk_at wdB_3_3_27 19 _ rfl) (dk_at wdB_3_3_27 20 _ rfl), dk_21 (dk_at wdB_3_3_27 21 _ rfl) (dk_at wdB_3_3_27 22 _ rfl)⟩, ⟨dk_156 (dk_at wdB_3_3_27 23 _ rfl) (dk_at wdB_3_3_27 24 _ rfl) (dk_at wdB_3_3_27 25 _ rfl) (by decide), dk_42 (dk_at wdB_3_3_27 26 _ rfl)⟩⟩⟩⟩
theorem wdB_3_3_28 : dk_bw (cX12_put.data.toList.drop 27) [21, 7, 182, 0, 245, 172, 42, 180, 0, 50, 16, 30, 27, 104, 8, 29, 104, 96, 21, 4, 96, 28, 154, 0, 11] = true := by decide +kernel
theorem dB_3_3_28 : ((((decode cX12_put 27 = .ok (.iload 7, 2)) ∧ (decode cX12_put 29 = .ok (.invokevirtual 245, 3))) ∧ ((decode cX12_put 32 = .ok (.ireturn, 1)) ∧ (decode cX12_put 33 = .ok (.aload_n 0, 1)))) ∧ (((decode cX12_put 34 = .ok (.getfield 50, 3)) ∧ (decode cX12_put 37 = .ok (.bipush 30, 2))) ∧ ((decode cX12_put 39 = .ok (.iload_n 1, 1)) ∧ (decode cX12_put 40 = .ok (.imul, 1))))) ∧ ((((decode cX12_put 41 = .ok (.iconst 5, 1)) ∧ (decode cX12_put 42 = .ok (.iload_n 3, 1))) ∧ ((decode cX12_put 43 = .ok (.imul, 1)) ∧ (decode cX12_put 44 = .ok (.iadd, 1)))) ∧ (((decode cX12_put 45 = .ok (.iload 4, 2)) ∧ (decode cX12_put 47 = .ok (.iadd, 1))) ∧ ((decode cX12_put 48 = .ok (.iload_n 2, 1)) ∧ (decode cX12_put 49 = .ok (.ifCond .ne 11, 3))))) := ⟨⟨⟨⟨dk_21 (dk_at wdB_3_3_28 0 _ rfl) (dk_at wdB_3_3_28 1 _ rfl), dk_182 (dk_at wdB_3_3_28 2 _ rfl) (dk_at wdB_3_3_28 3 _ rfl) (dk_at wdB_3_3_28 4 _ rfl) rfl⟩, ⟨dk_172 (dk_at wdB_3_3_28 5 _ rfl), dk_42 (dk_at wdB_3_3_28 6 _ rfl)⟩⟩, ⟨⟨dk_180 (dk_at wdB_3_3_28 7 _ rfl) (dk_at wdB_3_3_28 8 _ rfl) (dk_at wdB_3_3_28 9 _ rfl) rfl, dk_16 (dk_at wdB_3_3_28 10 _ rfl) (dk_at wdB_3_3_28 11 _ rfl) (by decide)⟩, ⟨dk_27 (dk_at wdB_3_3_28 12 _ rfl), dk_104 (dk_at wdB_3_3_28 13 _ rfl)⟩⟩⟩, ⟨⟨⟨dk_8 (dk_at wdB_3_3_28 14 _ rfl), dk_29 (dk_at wdB_3_3_28 15 _ rfl)⟩, ⟨dk_104 (dk_at wdB_3_3_28 16 _ rfl), dk_96 (dk_at wdB_3_3_28 17 _ rfl)⟩⟩, ⟨⟨dk_21 (dk_at wdB_3_3_28 18 _ rfl) (dk_at wdB_3_3_28 19 _ rfl), dk_96 (dk_at wdB_3_3_28 20 _ rfl)⟩, ⟨dk_28 (dk_at wdB_3_3_28 21 _ rfl), dk_154 (dk_at wdB_3_3_28 22 _ rfl) (dk_at wdB_3_3_28 23 _ rfl) (dk_at wdB_3_3_28 24 _ rfl) (by decide)⟩⟩⟩⟩
theorem wdB_3_3_29 : dk_bw (cX12_put.data.toList.drop 52) [22, 5, 136, 147, 133, 167, 0, 17, 28, 4, 160, 0, 10, 22, 5, 136, 133, 167, 0, 5, 22, 5, 80, 4, 172] = true := by decide +kernel
theorem dB_3_3_29 : ((((decode cX12_put 52 = .ok (.lload 5, 2)) ∧ (decode cX12_put 54 = .ok (.l2i, 1))) ∧ ((decode cX12_put 55 = .ok (.i2s, 1)) ∧ (decode cX12_put 56 = .ok (.i2l, 1)))) ∧ (((decode cX12_put 57 = .ok (.goto 17, 3)) ∧ (decode cX12_put 60 = .ok (.iload_n 2, 1))) ∧ ((decode cX12_put 61 = .ok (.iconst 1, 1)) ∧ (decode cX12_put 62 = .ok (.if_icmp .ne 10, 3))))) ∧ ((((decode cX12_put 65 = .ok (.lload 5, 2)) ∧ (decode cX12_put 67 = .ok (.l2i, 1))) ∧ ((decode cX12_put 68 = .ok (.i2l, 1)) ∧ (decode cX12_put 69 = .ok (.goto 5, 3)))) ∧ (((decode cX12_put 72 = .ok (.lload 5, 2)) ∧ (decode cX12_put 74 = .ok (.lastore, 1))) ∧ ((decode cX12_put 75 = .ok (.iconst 1, 1)) ∧ (decode cX12_put 76 = .ok (.ireturn, 1))))) := ⟨⟨⟨⟨dk_22 (dk_at wdB_3_3_29 0 _ rfl) (dk_at wdB_3_3_29 1 _ rfl), dk_136 (dk_at wdB_3_3_29 2 _ rfl)⟩, ⟨dk_147 (dk_at wdB_3_3_29 3 _ rfl), dk_133 (dk_at wdB_3_3_29 4 _ rfl)⟩⟩, ⟨⟨dk_167 (dk_at wdB_3_3_29 5 _ rfl) (dk_at wdB_3_3_29 6 _ rfl) (dk_at wdB_3_3_29 7 _ rfl) (by decide), dk_28 (dk_at wdB_3_3_29 8 _ rfl)⟩, ⟨dk_4 (dk_at wdB_3_3_29 9 _ rfl), dk_160 (dk_at wdB_3_3_29 10 _ rfl) (dk_at wdB_3_3_29 11 _ rfl) (dk_at wdB_3_3_29 12 _ rfl) (by decide)⟩⟩⟩, ⟨⟨⟨dk_22 (dk_at wdB_3_3_29 13 _ rfl) (dk_at wdB_3_3_29 14 _ rfl), dk_136 (dk_at wdB_3_3_29 15 _ rfl)⟩, ⟨dk_133 (dk_at wdB_3_3_29 16 _ rfl), dk_167 (dk_at wdB_3_3_29 17 _ rfl) (dk_at wdB_3_3_29 18 _ rfl) (dk_at wdB_3_3_29 19 _ rfl) (by decide)⟩⟩, ⟨⟨dk_22 (dk_at wdB_3_3_29 20 _ rfl) (dk_at wdB_3_3_29 21 _ rfl), dk_80 (dk_at wdB_3_3_29 22 _ rfl)⟩, ⟨dk_4 (dk_at wdB_3_3_29 23 _ rfl), dk_172 (dk_at wdB_3_3_29 24 _ rfl)⟩⟩⟩⟩
theorem wdB_3_3_30 : dk_bw (cX12_read.data.toList.drop 0) [42, 3, 181, 0, 85, 42, 3, 181, 0, 240, 27, 133, 9, 20, 0, 243, 184, 0, 91, 154, 0, 9, 42, 2, 182, 0, 245, 172] = true := by decide +kernel
theorem dB_3_3_30 : ((((decode cX12_read 0 = .ok (.aload_n 0, 1)) ∧ (decode cX12_read 1 = .ok (.iconst 0, 1))) ∧ ((decode cX12_read 2 = .ok (.putfield 85, 3)) ∧ (decode cX12_read 5 = .ok (.aload_n 0, 1)))) ∧ (((decode cX12_read 6 = .ok (.iconst 0, 1)) ∧ (decode cX12_read 7 = .ok (.putfield 240, 3))) ∧ ((decode cX12_read 10 = .ok (.iload_n 1, 1)) ∧ (decode cX12_read 11 = .ok (.i2l, 1))))) ∧ ((((decode cX12_read 12 = .ok (.lconst 0, 1)) ∧ (decode cX12_read 13 = .ok (.ldc2_w 243, 3))) ∧ ((decode cX12_read 16 = .ok (.invokestatic 91, 3)) ∧ (decode cX12_read 19 = .ok (.ifCond .ne 9, 3)))) ∧ (((decode cX12_read 22 = .ok (.aload_n 0, 1)) ∧ (decode cX12_read 23 = .ok (.iconst (-1), 1))) ∧ ((decode cX12_read 24 = .ok (.invokevirtual 245, 3)) ∧ (decode cX12_read 27 = .ok (.ireturn, 1))))) := ⟨⟨⟨⟨dk_42 (dk_at wdB_3_3_30 0 _ rfl), dk_3 (dk_at wdB_3_3_30 1 _ rfl)⟩, ⟨dk_181 (dk_at wdB_3_3_30 2 _ rfl) (dk_at wdB_3_3_30 3 _ rfl) (dk_at wdB_3_3_30 4 _ rfl) rfl, dk_42 (dk_at wdB_3_3_30 5 _ rfl)⟩⟩, ⟨⟨dk_3 (dk_at wdB_3_3_30 6 _ rfl), dk_181 (dk_at wdB_3_3_30 7 _ rfl) (dk_at wdB_3_3_30 8 _ rfl) (dk_at wdB_3_3_30 9 _ rfl) rfl⟩, ⟨dk_27 (dk_at wdB_3_3_30 10 _ rfl), dk_133 (dk_at wdB_3_3_30 11 _ rfl)⟩⟩⟩, ⟨⟨⟨dk_9 (dk_at wdB_3_3_30 12 _ rfl), dk_20 (dk_at wdB_3_3_30 13 _ rfl) (dk_at wdB_3_3_30 14 _ rfl) (dk_at wdB_3_3_30 15 _ rfl) rfl⟩, ⟨dk_184 (dk_at wdB_3_3_30 16 _ rfl) (dk_at wdB_3_3_30 17 _ rfl) (dk_at wdB_3_3_30 18 _ rfl) rfl, dk_154 (dk_at wdB_3_3_30 19 _ rfl) (dk_at wdB_3_3_30 20 _ rfl) (dk_at wdB_3_3_30 21 _ rfl) (by decide)⟩⟩, ⟨⟨dk_42 (dk_at wdB_3_3_30 22 _ rfl), dk_2 (dk_at wdB_3_3_30 23 _ rfl)⟩, ⟨dk_182 (dk_at wdB_3_3_30 24 _ rfl) (dk_at wdB_3_3_30 25 _ rfl) (dk_at wdB_3_3_30 26 _ rfl) rfl, dk_172 (dk_at wdB_3_3_30 27 _ rfl)⟩⟩⟩⟩
theorem wdB_3_3_31 : dk_bw (cX12_read.data.toList.drop 28) [42, 180, 0, 38, 27, 51, 154, 0, 11, 42, 16, 245, 181, 0, 240, 3, 172, 3, 61, 3, 62, 29, 42] = true := by decide +kernel
theorem dB_3_3_31 : ((((decode cX12_read 28 = .ok (.aload_n 0, 1)) ∧ (decode cX12_read 29 = .ok (.getfield 38, 3))) ∧ ((decode cX12_read 32 = .ok (.iload_n 1, 1)) ∧ (decode cX12_read 33 = .ok (.baload, 1)))) ∧ (((decode cX12_read 34 = .ok (.ifCond .ne 11, 3)) ∧ (decode cX12_read 37 = .ok (.aload_n 0, 1))) ∧ ((decode cX12_read 38 = .ok (.bipush (-11), 2)) ∧ (decode cX12_read 40 = .ok (.putfield 240, 3))))) ∧ ((((decode cX12_read 43 = .ok (.iconst 0, 1)) ∧ (decode cX12_read 44 = .ok (.ireturn, 1))) ∧ ((decode cX12_read 45 = .ok (.iconst 0, 1)) ∧ (decode cX12_read 46 = .ok (.istore_n 2, 1)))) ∧ (((decode cX12_read 47 = .ok (.iconst 0, 1)) ∧ (decode cX12_read 48 = .ok (.istore_n 3, 1))) ∧ ((decode cX12_read 49 = .ok (.iload_n 3, 1)) ∧ (decode cX12_read 50 = .ok (.aload_n 0, 1))))) := ⟨⟨⟨⟨dk_42 (dk_at wdB_3_3_31 0 _ rfl), dk_180 (dk_at wdB_3_3_31 1 _ rfl) (dk_at wdB_3_3_31 2 _ rfl) (dk_at wdB_3_3_31 3 _ rfl) rfl⟩, ⟨dk_27 (dk_at wdB_3_3_31 4 _ rfl), dk_51 (dk_at wdB_3_3_31 5 _ rfl)⟩⟩, ⟨⟨dk_154 (dk_at wdB_3_3_31 6 _ rfl) (dk_at wdB_3_3_31 7 _ rfl) (dk_at wdB_3_3_31 8 _ rfl) (by decide), dk_42 (dk_at wdB_3_3_31 9 _ rfl)⟩, ⟨dk_16 (dk_at wdB_3_3_31 10 _ rfl) (dk_at wdB_3_3_31 11 _ rfl) (by decide), dk_181 (dk_at wdB_3_3_31 12 _ rfl) (dk_at wdB_3_3_31 13 _ rfl) (dk_at wdB_3_3_31 14 _ rfl) rfl⟩⟩⟩, ⟨⟨⟨dk_3 (dk_at wdB_3_3_31 15 _ rfl), dk_172 (dk_at wdB_3_3_31 16 _ rfl)⟩, ⟨dk_3 (dk_at wdB_3_3_31 17 _ rfl), dk_61 (dk_at wdB_3_3_31 18 _ rfl)⟩⟩, ⟨⟨dk_3 (dk_at wdB_3_3_31 19 _ rfl), dk_62 (dk_at wdB_3_3_31 20 _ rfl)⟩, ⟨dk_29 (dk_at wdB_3_3_31 21 _ rfl), dk_42 (dk_at wdB_3_3_31 22 _ rfl)⟩⟩⟩⟩
theorem wdB_3_3_32 : dk_bw (cX12_read.data.toList.drop 51) [180, 0, 44, 27, 46, 162, 0, 180, 42, 180, 0, 47, 16, 6, 27, 104, 29, 96, 46, 54, 4, 16, 30, 27, 104] = true := by decide +kernel
theorem dB_3_3_32 : ((((decode cX12_read 51 = .ok (.getfield 44, 3)) ∧ (decode cX12_read 54 = .ok (.iload_n 1, 1))) ∧ ((decode cX12_read 55 = .ok (.iaload, 1)) ∧ (decode cX12_read 56 = .ok (.if_icmp .ge 180, 3)))) ∧ (((decode cX12_read 59 = .ok (.aload_n 0, 1)) ∧ (decode cX12_read 60 = .ok (.getfield 47, 3))) ∧ ((decode cX12_read 63 = .ok (.bipush 6, 2)) ∧ (decode cX12_read 65 = .ok (.iload_n 1, 1))))) ∧ ((((decode cX12_read 66 = .ok (.imul, 1)) ∧ (decode cX12_read 67 = .ok (.iload_n 3, 1))) ∧ ((decode cX12_read 68 = .ok (.iadd, 1)) ∧ (decode cX12_read 69 = .ok (.iaload, 1)))) ∧ (((decode cX12_read 70 = .ok (.istore 4, 2)) ∧ (decode cX12_read 72 = .ok (.bipush 30, 2))) ∧ ((decode cX12_read 74 = .ok (.iload_n 1, 1)) ∧ (decode cX12_read 75 = .ok (.imul, 1))))) := ⟨⟨⟨⟨dk_180 (dk_at wdB_3_3_32 0 _ rfl) (dk_at wdB_3_3_32 1 _ rfl) (dk_at wdB_3_3_32 2 _ rfl) rfl, dk_27 (dk_at wdB_3_3_32 3 _ rfl)⟩, ⟨dk_46 (dk_at wdB_3_3_32 4 _ rfl), dk_162 (dk_at wdB_3_3_32 5 _ rfl) (dk_at wdB_3_3_32 6 _ rfl) (dk_at wdB_3_3_32 7 _ rfl) (by decide)⟩⟩, ⟨⟨dk_42 (dk_at wdB_3_3_32 8 _ rfl), dk_180 (dk_at wdB_3_3_32 9 _ rfl) (dk_at wdB_3_3_32 10 _ rfl) (dk_at wdB_3_3_32 11 _ rfl) rfl⟩, ⟨dk_16 (dk_at wdB_3_3_32 12 _ rfl) (dk_at wdB_3_3_32 13 _ rfl) (by decide), dk_27 (dk_at wdB_3_3_32 14 _ rfl)⟩⟩⟩, ⟨⟨⟨dk_104 (dk_at wdB_3_3_32 15 _ rfl), dk_29 (dk_at wdB_3_3_32 16 _ rfl)⟩, ⟨dk_96 (dk_at wdB_3_3_32 17 _ rfl), dk_46 (dk_at wdB_3_3_32 18 _ rfl)⟩⟩, ⟨⟨dk_54 (dk_at wdB_3_3_32 19 _ rfl) (dk_at wdB_3_3_32 20 _ rfl), dk_16 (dk_at wdB_3_3_32 21 _ rfl) (dk_at wdB_3_3_32 22 _ rfl) (by decide)⟩, ⟨dk_27 (dk_at wdB_3_3_32 23 _ rfl), dk_104 (dk_at wdB_3_3_32 24 _ rfl)⟩⟩⟩⟩
theorem wdB_3_3_33 : dk_bw (cX12_read.data.toList.drop 76) [8, 29, 104, 96, 54, 5, 21, 4, 16, 247, 160, 0, 8, 16, 245, 167, 0, 61, 21, 4, 8, 162, 0, 8, 16, 244, 167, 0, 50, 42] = true := by decide +kernel
theorem dB_3_3_33 : ((((decode cX12_read 76 = .ok (.iconst 5, 1)) ∧ (decode cX12_read 77 = .ok (.iload_n 3, 1))) ∧ ((decode cX12_read 78 = .ok (.imul, 1)) ∧ (decode cX12_read 79 = .ok (.iadd, 1)))) ∧ (((decode cX12_read 80 = .ok (.istore 5, 2)) ∧ (decode cX12_read 82 = .ok (.iload 4, 2))) ∧ ((decode cX12_read 84 = .ok (.bipush (-9), 2)) ∧ (decode cX12_read 86 = .ok (.if_icmp .ne 8, 3))))) ∧ ((((decode cX12_read 89 = .ok (.bipush (-11), 2)) ∧ (decode cX12_read 91 = .ok (.goto 61, 3))) ∧ ((decode cX12_read 94 = .ok (.iload 4, 2)) ∧ (decode cX12_read 96 = .ok (.iconst 5, 1)))) ∧ (((decode cX12_read 97 = .ok (.if_icmp .ge 8, 3)) ∧ (decode cX12_read 100 = .ok (.bipush (-12), 2))) ∧ ((decode cX12_read 102 = .ok (.goto 50, 3)) ∧ (decode cX12_read 105 = .ok (.aload_n 0, 1))))) := ⟨⟨⟨⟨dk_8 (dk_at wdB_3_3_33 0 _ rfl), dk_29 (dk_at wdB_3_3_33 1 _ rfl)⟩, ⟨dk_104 (dk_at wdB_3_3_33 2 _ rfl), dk_96 (dk_at wdB_3_3_33 3 _ rfl)⟩⟩, ⟨⟨dk_54 (dk_at wdB_3_3_33 4 _ rfl) (dk_at wdB_3_3_33 5 _ rfl), dk_21 (dk_at wdB_3_3_33 6 _ rfl) (dk_at wdB_3_3_33 7 _ rfl)⟩, ⟨dk_16 (dk_at wdB_3_3_33 8 _ rfl) (dk_at wdB_3_3_33 9 _ rfl) (by decide), dk_160 (dk_at wdB_3_3_33 10 _ rfl) (dk_at wdB_3_3_33 11 _ rfl) (dk_at wdB_3_3_33 12 _ rfl) (by decide)⟩⟩⟩, ⟨⟨⟨dk_16 (dk_at wdB_3_3_33 13 _ rfl) (dk_at wdB_3_3_33 14 _ rfl) (by decide), dk_167 (dk_at wdB_3_3_33 15 _ rfl) (dk_at wdB_3_3_33 16 _ rfl) (dk_at wdB_3_3_33 17 _ rfl) (by decide)⟩, ⟨dk_21 (dk_at wdB_3_3_33 18 _ rfl) (dk_at wdB_3_3_33 19 _ rfl), dk_8 (dk_at wdB_3_3_33 20 _ rfl)⟩⟩, ⟨⟨dk_162 (dk_at wdB_3_3_33 21 _ rfl) (dk_at wdB_3_3_33 22 _ rfl) (dk_at wdB_3_3_33 23 _ rfl) (by decide), dk_16 (dk_at wdB_3_3_33 24 _ rfl) (dk_at wdB_3_3_33 25 _ rfl) (by decide)⟩, ⟨dk_167 (dk_at wdB_3_3_33 26 _ rfl) (dk_at wdB_3_3_33 27 _ rfl) (dk_at wdB_3_3_33 28 _ rfl) (by decide), dk_42 (dk_at wdB_3_3_33 29 _ rfl)⟩⟩⟩⟩
theorem wdB_3_3_34 : dk_bw (cX12_read.data.toList.drop 106) [42, 180, 0, 50, 21, 5, 47, 42, 180, 0, 50, 21, 5, 4, 96, 47, 42, 180, 0, 50, 21, 5, 5, 96, 47] = true := by decide +kernel
theorem dB_3_3_34 : ((((decode cX12_read 106 = .ok (.aload_n 0, 1)) ∧ (decode cX12_read 107 = .ok (.getfield 50, 3))) ∧ ((decode cX12_read 110 = .ok (.iload 5, 2)) ∧ (decode cX12_read 112 = .ok (.laload, 1)))) ∧ (((decode cX12_read 113 = .ok (.aload_n 0, 1)) ∧ (decode cX12_read 114 = .ok (.getfield 50, 3))) ∧ ((decode cX12_read 117 = .ok (.iload 5, 2)) ∧ (decode cX12_read 119 = .ok (.iconst 1, 1))))) ∧ ((((decode cX12_read 120 = .ok (.iadd, 1)) ∧ (decode cX12_read 121 = .ok (.laload, 1))) ∧ ((decode cX12_read 122 = .ok (.aload_n 0, 1)) ∧ (decode cX12_read 123 = .ok (.getfield 50, 3)))) ∧ (((decode cX12_read 126 = .ok (.iload 5, 2)) ∧ (decode cX12_read 128 = .ok (.iconst 2, 1))) ∧ ((decode cX12_read 129 = .ok (.iadd, 1)) ∧ (decode cX12_read 130 = .ok (.laload, 1))))) := ⟨⟨⟨⟨dk_42 (dk_at wdB_3_3_34 0 _ rfl), dk_180 (dk_at wdB_3_3_34 1 _ rfl) (dk_at wdB_3_3_34 2 _ rfl) (dk_at wdB_3_3_34 3 _ rfl) rfl⟩, ⟨dk_21 (dk_at wdB_3_3_34 4 _ rfl) (dk_at wdB_3_3_34 5 _ rfl), dk_47 (dk_at wdB_3_3_34 6 _ rfl)⟩⟩, ⟨⟨dk_42 (dk_at wdB_3_3_34 7 _ rfl), dk_180 (dk_at wdB_3_3_34 8 _ rfl) (dk_at wdB_3_3_34 9 _ rfl) (dk_at wdB_3_3_34 10 _ rfl) rfl⟩, ⟨dk_21 (dk_at wdB_3_3_34 11 _ rfl) (dk_at wdB_3_3_34 12 _ rfl), dk_4 (dk_at wdB_3_3_34 13 _ rfl)⟩⟩⟩, ⟨⟨⟨dk_96 (dk_at wdB_3_3_34 14 _ rfl), dk_47 (dk_at wdB_3_3_34 15 _ rfl)⟩, ⟨dk_42 (dk_at wdB_3_3_34 16 _ rfl), dk_180 (dk_at wdB_3_3_34 17 _ rfl) (dk_at wdB_3_3_34 18 _ rfl) (dk_at wdB_3_3_34 19 _ rfl) rfl⟩⟩, ⟨⟨dk_21 (dk_at wdB_3_3_34 20 _ rfl) (dk_at wdB_3_3_34 21 _ rfl), dk_5 (dk_at wdB_3_3_34 22 _ rfl)⟩, ⟨dk_96 (dk_at wdB_3_3_34 23 _ rfl), dk_47 (dk_at wdB_3_3_34 24 _ rfl)⟩⟩⟩⟩
theorem wdB_3_3_35 : dk_bw (cX12_read.data.toList.drop 131) [42, 180, 0, 50, 21, 5, 6, 96, 47, 42, 180, 0, 50, 21, 5, 7, 96, 47, 182, 0, 120, 54, 6, 21, 6, 156, 0, 11] = true := by decide +kernel
theorem dB_3_3_35 : ((((decode cX12_read 131 = .ok (.aload_n 0, 1)) ∧ (decode cX12_read 132 = .ok (.getfield 50, 3))) ∧ ((decode cX12_read 135 = .ok (.iload 5, 2)) ∧ (decode cX12_read 137 = .ok (.iconst 3, 1)))) ∧ (((decode cX12_read 138 = .ok (.iadd, 1)) ∧ (decode cX12_read 139 = .ok (.laload, 1))) ∧ ((decode cX12_read 140 = .ok (.aload_n 0, 1)) ∧ (decode cX12_read 141 = .ok (.getfield 50, 3))))) ∧ ((((decode cX12_read 144 = .ok (.iload 5, 2)) ∧ (decode cX12_read 146 = .ok (.iconst 4, 1))) ∧ ((decode cX12_read 147 = .ok (.iadd, 1)) ∧ (decode cX12_read 148 = .ok (.laload, 1)))) ∧ (((decode cX12_read 149 = .ok (.invokevirtual 120, 3)) ∧ (decode cX12_read 152 = .ok (.istore 6, 2))) ∧ ((decode cX12_read 154 = .ok (.iload 6, 2)) ∧ (decode cX12_read 156 = .ok (.ifCond .ge 11, 3))))) := ⟨⟨⟨⟨dk_42 (dk_at wdB_3_3_35 0 _ rfl), dk_180 (dk_at wdB_3_3_35 1 _ rfl) (dk_at wdB_3_3_35 2 _ rfl) (dk_at wdB_3_3_35 3 _ rfl) rfl⟩, ⟨dk_21 (dk_at wdB_3_3_35 4 _ rfl) (dk_at wdB_3_3_35 5 _ rfl), dk_6 (dk_at wdB_3_3_35 6 _ rfl)⟩⟩, ⟨⟨dk_96 (dk_at wdB_3_3_35 7 _ rfl), dk_47 (dk_at wdB_3_3_35 8 _ rfl)⟩, ⟨dk_42 (dk_at wdB_3_3_35 9 _ rfl), dk_180 (dk_at wdB_3_3_35 10 _ rfl) (dk_at wdB_3_3_35 11 _ rfl) (dk_at wdB_3_3_35 12 _ rfl) rfl⟩⟩⟩, ⟨⟨⟨dk_21 (dk_at wdB_3_3_35 13 _ rfl) (dk_at wdB_3_3_35 14 _ rfl), dk_7 (dk_at wdB_3_3_35 15 _ rfl)⟩, ⟨dk_96 (dk_at wdB_3_3_35 16 _ rfl), dk_47 (dk_at wdB_3_3_35 17 _ rfl)⟩⟩, ⟨⟨dk_182 (dk_at wdB_3_3_35 18 _ rfl) (dk_at wdB_3_3_35 19 _ rfl) (dk_at wdB_3_3_35 20 _ rfl) rfl, dk_54 (dk_at wdB_3_3_35 21 _ rfl) (dk_at wdB_3_3_35 22 _ rfl)⟩, ⟨dk_21 (dk_at wdB_3_3_35 23 _ rfl) (dk_at wdB_3_3_35 24 _ rfl), dk_156 (dk_at wdB_3_3_35 25 _ rfl) (dk_at wdB_3_3_35 26 _ rfl) (dk_at wdB_3_3_35 27 _ rfl) (by decide)⟩⟩⟩⟩
theorem wdB_3_3_36 : dk_bw (cX12_read.data.toList.drop 159) [42, 21, 6, 181, 0, 240, 28, 172, 28, 154, 0, 7, 42, 182, 0, 105, 42, 42, 180, 0, 50, 21, 5, 47, 136, 42] = true := by decide +kernel
theorem dB_3_3_36 : ((((decode cX12_read 159 = .ok (.aload_n 0, 1)) ∧ (decode cX12_read 160 = .ok (.iload 6, 2))) ∧ ((decode cX12_read 162 = .ok (.putfield 240, 3)) ∧ (decode cX12_read 165 = .ok (.iload_n 2, 1)))) ∧ (((decode cX12_read 166 = .ok (.ireturn, 1)) ∧ (decode cX12_read 167 = .ok (.iload_n 2, 1))) ∧ ((decode cX12_read 168 = .ok (.ifCond .ne 7, 3)) ∧ (decode cX12_read 171 = .ok (.aload_n 0, 1))))) ∧ ((((decode cX12_read 172 = .ok (.invokevirtual 105, 3)) ∧ (decode cX12_read 175 = .ok (.aload_n 0, 1))) ∧ ((decode cX12_read 176 = .ok (.aload_n 0, 1)) ∧ (decode cX12_read 177 = .ok (.getfield 50, 3)))) ∧ (((decode cX12_read 180 = .ok (.iload 5, 2)) ∧ (decode cX12_read 182 = .ok (.laload, 1))) ∧ ((decode cX12_read 183 = .ok (.l2i, 1)) ∧ (decode cX12_read 184 = .ok (.aload_n 0, 1))))) := ⟨⟨⟨⟨dk_42 (dk_at wdB_3_3_36 0 _ rfl), dk_21 (dk_at wdB_3_3_36 1 _ rfl) (dk_at wdB_3_3_36 2 _ rfl)⟩, ⟨dk_181 (dk_at wdB_3_3_36 3 _ rfl) (dk_at wdB_3_3_36 4 _ rfl) (dk_at wdB_3_3_36 5 _ rfl) rfl, dk_28 (dk_at wdB_3_3_36 6 _ rfl)⟩⟩, ⟨⟨dk_172 (dk_at wdB_3_3_36 7 _ rfl), dk_28 (dk_at wdB_3_3_36 8 _ rfl)⟩, ⟨dk_154 (dk_at wdB_3_3_36 9 _ rfl) (dk_at wdB_3_3_36 10 _ rfl) (dk_at wdB_3_3_36 11 _ rfl) (by decide), dk_42 (dk_at wdB_3_3_36 12 _ rfl)⟩⟩⟩, ⟨⟨⟨dk_182 (dk_at wdB_3_3_36 13 _ rfl) (dk_at wdB_3_3_36 14 _ rfl) (dk_at wdB_3_3_36 15 _ rfl) rfl, dk_42 (dk_at wdB_3_3_36 16 _ rfl)⟩, ⟨dk_42 (dk_at wdB_3_3_36 17 _ rfl), dk_180 (dk_at wdB_3_3_36 18 _ rfl) (dk_at wdB_3_3_36 19 _ rfl) (dk_at wdB_3_3_36 20 _ rfl) rfl⟩⟩, ⟨⟨dk_21 (dk_at wdB_3_3_36 21 _ rfl) (dk_at wdB_3_3_36 22 _ rfl), dk_47 (dk_at wdB_3_3_36 23 _ rfl)⟩, ⟨dk_136 (dk_at wdB_3_3_36 24 _ rfl), dk_42 (dk_at wdB_3_3_36 25 _ rfl)⟩⟩⟩⟩
theorem wdB_3_3_37 : dk_bw (cX12_read.data.toList.drop 185) [180, 0, 50, 21, 5, 4, 96, 47, 136, 42, 180, 0, 50, 21, 5, 5, 96, 47, 136, 42, 180, 0, 50, 21, 5] = true := by decide +kernel
theorem dB_3_3_37 : ((((decode cX12_read 185 = .ok (.getfield 50, 3)) ∧ (decode cX12_read 188 = .ok (.iload 5, 2))) ∧ ((decode cX12_read 190 = .ok (.iconst 1, 1)) ∧ (decode cX12_read 191 = .ok (.iadd, 1)))) ∧ (((decode cX12_read 192 = .ok (.laload, 1)) ∧ (decode cX12_read 193 = .ok (.l2i, 1))) ∧ ((decode cX12_read 194 = .ok (.aload_n 0, 1)) ∧ (decode cX12_read 195 = .ok (.getfield 50, 3))))) ∧ ((((decode cX12_read 198 = .ok (.iload 5, 2)) ∧ (decode cX12_read 200 = .ok (.iconst 2, 1))) ∧ ((decode cX12_read 201 = .ok (.iadd, 1)) ∧ (decode cX12_read 202 = .ok (.laload, 1)))) ∧ (((decode cX12_read 203 = .ok (.l2i, 1)) ∧ (decode cX12_read 204 = .ok (.aload_n 0, 1))) ∧ ((decode cX12_read 205 = .ok (.getfield 50, 3)) ∧ (decode cX12_read 208 = .ok (.iload 5, 2))))) := ⟨⟨⟨⟨dk_180 (dk_at wdB_3_3_37 0 _ rfl) (dk_at wdB_3_3_37 1 _ rfl) (dk_at wdB_3_3_37 2 _ rfl) rfl, dk_21 (dk_at wdB_3_3_37 3 _ rfl) (dk_at wdB_3_3_37 4 _ rfl)⟩, ⟨dk_4 (dk_at wdB_3_3_37 5 _ rfl), dk_96 (dk_at wdB_3_3_37 6 _ rfl)⟩⟩, ⟨⟨dk_47 (dk_at wdB_3_3_37 7 _ rfl), dk_136 (dk_at wdB_3_3_37 8 _ rfl)⟩, ⟨dk_42 (dk_at wdB_3_3_37 9 _ rfl), dk_180 (dk_at wdB_3_3_37 10 _ rfl) (dk_at wdB_3_3_37 11 _ rfl) (dk_at wdB_3_3_37 12 _ rfl) rfl⟩⟩⟩, ⟨⟨⟨dk_21 (dk_at wdB_3_3_37 13 _ rfl) (dk_at wdB_3_3_37 14 _ rfl), dk_5 (dk_at wdB_3_3_37 15 _ rfl)⟩, ⟨dk_96 (dk_at wdB_3_3_37 16 _ rfl), dk_47 (dk_at wdB_3_3_37 17 _ rfl)⟩⟩, ⟨⟨dk_136 (dk_at wdB_3_3_37 18 _ rfl), dk_42 (dk_at wdB_3_3_37 19 _ rfl)⟩, ⟨dk_180 (dk_at wdB_3_3_37 20 _ rfl) (dk_at wdB_3_3_37 21 _ rfl) (dk_at wdB_3_3_37 22 _ rfl) rfl, dk_21 (dk_at wdB_3_3_37 23 _ rfl) (dk_at wdB_3_3_37 24 _ rfl)⟩⟩⟩⟩
theorem wdB_3_3_38 : dk_bw (cX12_read.data.toList.drop 210) [6, 96, 47, 136, 42, 180, 0, 50, 21, 5, 7, 96, 47, 136, 182, 0, 124, 132, 2, 1, 132, 3, 1, 167, 255, 72, 28] = true := by decide +kernel
theorem dB_3_3_38 : ((((decode cX12_read 210 = .ok (.iconst 3, 1)) ∧ (decode cX12_read 211 = .ok (.iadd, 1))) ∧ ((decode cX12_read 212 = .ok (.laload, 1)) ∧ (decode cX12_read 213 = .ok (.l2i, 1)))) ∧ (((decode cX12_read 214 = .ok (.aload_n 0, 1)) ∧ (decode cX12_read 215 = .ok (.getfield 50, 3))) ∧ ((decode cX12_read 218 = .ok (.iload 5, 2)) ∧ (decode cX12_read 220 = .ok (.iconst 4, 1))))) ∧ ((((decode cX12_read 221 = .ok (.iadd, 1)) ∧ (decode cX12_read 222 = .ok (.laload, 1))) ∧ ((decode cX12_read 223 = .ok (.l2i, 1)) ∧ (decode cX12_read 224 = .ok (.invokevirtual 124, 3)))) ∧ (((decode cX12_read 227 = .ok (.iinc 2 1, 3)) ∧ (decode cX12_read 230 = .ok (.iinc 3 1, 3))) ∧ ((decode cX12_read 233 = .ok (.goto (-184), 3)) ∧ (decode cX12_read 236 = .ok (.iload_n 2, 1))))) := ⟨⟨⟨⟨dk_6 (dk_at wdB_3_3_38 0 _ rfl), dk_96 (dk_at wdB_3_3_38 1 _ rfl)⟩, ⟨dk_47 (dk_at wdB_3_3_38 2 _ rfl), dk_136 (dk_at wdB_3_3_38 3 _ rfl)⟩⟩, ⟨⟨dk_42 (dk_at wdB_3_3_38 4 _ rfl), dk_180 (dk_at wdB_3_3_38 5 _ rfl) (dk_at wdB_3_3_38 6 _ rfl) (dk_at wdB_3_3_38 7 _ rfl) rfl⟩, ⟨dk_21 (dk_at wdB_3_3_38 8 _ rfl) (dk_at wdB_3_3_38 9 _ rfl), dk_7 (dk_at wdB_3_3_38 10 _ rfl)⟩⟩⟩, ⟨⟨⟨dk_96 (dk_at wdB_3_3_38 11 _ rfl), dk_47 (dk_at wdB_3_3_38 12 _ rfl)⟩, ⟨dk_136 (dk_at wdB_3_3_38 13 _ rfl), dk_182 (dk_at wdB_3_3_38 14 _ rfl) (dk_at wdB_3_3_38 15 _ rfl) (dk_at wdB_3_3_38 16 _ rfl) rfl⟩⟩, ⟨⟨dk_132 (dk_at wdB_3_3_38 17 _ rfl) (dk_at wdB_3_3_38 18 _ rfl) (dk_at wdB_3_3_38 19 _ rfl) (by decide), dk_132 (dk_at wdB_3_3_38 20 _ rfl) (dk_at wdB_3_3_38 21 _ rfl) (dk_at wdB_3_3_38 22 _ rfl) (by decide)⟩, ⟨dk_167 (dk_at wdB_3_3_38 23 _ rfl) (dk_at wdB_3_3_38 24 _ rfl) (dk_at wdB_3_3_38 25 _ rfl) (by decide), dk_28 (dk_at wdB_3_3_38 26 _ rfl)⟩⟩⟩⟩
theorem wdB_3_3_39 : dk_bw (cX12_read.data.toList.drop 237) [172] = true := by decide +kernel
theorem dB_3_3_39 : decode cX12_read 237 = .ok (.ireturn, 1) := dk_172 (dk_at wdB_3_3_39 0 _ rfl)
theorem wdB_3_3_40 : dk_bw (cX12_row.data.toList.drop 0) [42, 3, 181, 0, 85, 42, 3, 181, 0, 240, 27, 133, 9, 20, 0, 243, 184, 0, 91, 153, 0, 8, 29, 8, 164, 0, 9, 42] = true := by decide +kernel
theorem dB_3_3_40 : ((((decode cX12_row 0 = .ok (.aload_n 0, 1)) ∧ (decode cX12_row 1 = .ok (.iconst 0, 1))) ∧ ((decode cX12_row 2 = .ok (.putfield 85, 3)) ∧ (decode cX12_row 5 = .ok (.aload_n 0, 1)))) ∧ (((decode cX12_row 6 = .ok (.iconst 0, 1)) ∧ (decode cX12_row 7 = .ok (.putfield 240, 3))) ∧ ((decode cX12_row 10 = .ok (.iload_n 1, 1)) ∧ (decode cX12_row 11 = .ok (.i2l, 1))))) ∧ ((((decode cX12_row 12 = .ok (.lconst 0, 1)) ∧ (decode cX12_row 13 = .ok (.ldc2_w 243, 3))) ∧ ((decode cX12_row 16 = .ok (.invokestatic 91, 3)) ∧ (decode cX12_row 19 = .ok (.ifCond .eq 8, 3)))) ∧ (((decode cX12_row 22 = .ok (.iload_n 3, 1)) ∧ (decode cX12_row 23 = .ok (.iconst 5, 1))) ∧ ((decode cX12_row 24 = .ok (.if_icmp .le 9, 3)) ∧ (decode cX12_row 27 = .ok (.aload_n 0, 1))))) := ⟨⟨⟨⟨dk_42 (dk_at wdB_3_3_40 0 _ rfl), dk_3 (dk_at wdB_3_3_40 1 _ rfl)⟩, ⟨dk_181 (dk_at wdB_3_3_40 2 _ rfl) (dk_at wdB_3_3_40 3 _ rfl) (dk_at wdB_3_3_40 4 _ rfl) rfl, dk_42 (dk_at wdB_3_3_40 5 _ rfl)⟩⟩, ⟨⟨dk_3 (dk_at wdB_3_3_40 6 _ rfl), dk_181 (dk_at wdB_3_3_40 7 _ rfl) (dk_at wdB_3_3_40 8 _ rfl) (dk_at wdB_3_3_40 9 _ rfl) rfl⟩, ⟨dk_27 (dk_at wdB_3_3_40 10 _ rfl), dk_133 (dk_at wdB_3_3_40 11 _ rfl)⟩⟩⟩, ⟨⟨⟨dk_9 (dk_at wdB_3_3_40 12 _ rfl), dk_20 (dk_at wdB_3_3_40 13 _ rfl) (dk_at wdB_3_3_40 14 _ rfl) (dk_at wdB_3_3_40 15 _ rfl) rfl⟩, ⟨dk_184 (dk_at wdB_3_3_40 16 _ rfl) (dk_at wdB_3_3_40 17 _ rfl) (dk_at wdB_3_3_40 18 _ rfl) rfl, dk_153 (dk_at wdB_3_3_40 19 _ rfl) (dk_at wdB_3_3_40 20 _ rfl) (dk_at wdB_3_3_40 21 _ rfl) (by decide)⟩⟩, ⟨⟨dk_29 (dk_at wdB_3_3_40 22 _ rfl), dk_8 (dk_at wdB_3_3_40 23 _ rfl)⟩, ⟨dk_164 (dk_at wdB_3_3_40 24 _ rfl) (dk_at wdB_3_3_40 25 _ rfl) (dk_at wdB_3_3_40 26 _ rfl) (by decide), dk_42 (dk_at wdB_3_3_40 27 _ rfl)⟩⟩⟩⟩
theorem wdB_3_3_41 : dk_bw (cX12_row.data.toList.drop 28) [2, 182, 0, 245, 172, 42, 180, 0, 38, 27, 51, 154, 0, 10, 42, 16, 245, 182, 0, 245, 172, 28, 133, 9, 42] = true := by decide +kernel
theorem dB_3_3_41 : ((((decode cX12_row 28 = .ok (.iconst (-1), 1)) ∧ (decode cX12_row 29 = .ok (.invokevirtual 245, 3))) ∧ ((decode cX12_row 32 = .ok (.ireturn, 1)) ∧ (decode cX12_row 33 = .ok (.aload_n 0, 1)))) ∧ (((decode cX12_row 34 = .ok (.getfield 38, 3)) ∧ (decode cX12_row 37 = .ok (.iload_n 1, 1))) ∧ ((decode cX12_row 38 = .ok (.baload, 1)) ∧ (decode cX12_row 39 = .ok (.ifCond .ne 10, 3))))) ∧ ((((decode cX12_row 42 = .ok (.aload_n 0, 1)) ∧ (decode cX12_row 43 = .ok (.bipush (-11), 2))) ∧ ((decode cX12_row 45 = .ok (.invokevirtual 245, 3)) ∧ (decode cX12_row 48 = .ok (.ireturn, 1)))) ∧ (((decode cX12_row 49 = .ok (.iload_n 2, 1)) ∧ (decode cX12_row 50 = .ok (.i2l, 1))) ∧ ((decode cX12_row 51 = .ok (.lconst 0, 1)) ∧ (decode cX12_row 52 = .ok (.aload_n 0, 1))))) := ⟨⟨⟨⟨dk_2 (dk_at wdB_3_3_41 0 _ rfl), dk_182 (dk_at wdB_3_3_41 1 _ rfl) (dk_at wdB_3_3_41 2 _ rfl) (dk_at wdB_3_3_41 3 _ rfl) rfl⟩, ⟨dk_172 (dk_at wdB_3_3_41 4 _ rfl), dk_42 (dk_at wdB_3_3_41 5 _ rfl)⟩⟩, ⟨⟨dk_180 (dk_at wdB_3_3_41 6 _ rfl) (dk_at wdB_3_3_41 7 _ rfl) (dk_at wdB_3_3_41 8 _ rfl) rfl, dk_27 (dk_at wdB_3_3_41 9 _ rfl)⟩, ⟨dk_51 (dk_at wdB_3_3_41 10 _ rfl), dk_154 (dk_at wdB_3_3_41 11 _ rfl) (dk_at wdB_3_3_41 12 _ rfl) (dk_at wdB_3_3_41 13 _ rfl) (by decide)⟩⟩⟩, ⟨⟨⟨dk_42 (dk_at wdB_3_3_41 14 _ rfl), dk_16 (dk_at wdB_3_3_41 15 _ rfl) (dk_at wdB_3_3_41 16 _ rfl) (by decide)⟩, ⟨dk_182 (dk_at wdB_3_3_41 17 _ rfl) (dk_at wdB_3_3_41 18 _ rfl) (dk_at wdB_3_3_41 19 _ rfl) rfl, dk_172 (dk_at wdB_3_3_41 20 _ rfl)⟩⟩, ⟨⟨dk_28 (dk_at wdB_3_3_41 21 _ rfl), dk_133 (dk_at wdB_3_3_41 22 _ rfl)⟩, ⟨dk_9 (dk_at wdB_3_3_41 23 _ rfl), dk_42 (dk_at wdB_3_3_41 24 _ rfl)⟩⟩⟩⟩
theorem wdB_3_3_42 : dk_bw (cX12_row.data.toList.drop 53) [180, 0, 44, 27, 46, 4, 100, 133, 184, 0, 91, 154, 0, 10, 42, 16, 244, 182, 0, 245, 172, 29, 156, 0, 10, 42, 16, 241] = true := by decide +kernel
theorem dB_3_3_42 : ((((decode cX12_row 53 = .ok (.getfield 44, 3)) ∧ (decode cX12_row 56 = .ok (.iload_n 1, 1))) ∧ ((decode cX12_row 57 = .ok (.iaload, 1)) ∧ (decode cX12_row 58 = .ok (.iconst 1, 1)))) ∧ (((decode cX12_row 59 = .ok (.isub, 1)) ∧ (decode cX12_row 60 = .ok (.i2l, 1))) ∧ ((decode cX12_row 61 = .ok (.invokestatic 91, 3)) ∧ (decode cX12_row 64 = .ok (.ifCond .ne 10, 3))))) ∧ ((((decode cX12_row 67 = .ok (.aload_n 0, 1)) ∧ (decode cX12_row 68 = .ok (.bipush (-12), 2))) ∧ ((decode cX12_row 70 = .ok (.invokevirtual 245, 3)) ∧ (decode cX12_row 73 = .ok (.ireturn, 1)))) ∧ (((decode cX12_row 74 = .ok (.iload_n 3, 1)) ∧ (decode cX12_row 75 = .ok (.ifCond .ge 10, 3))) ∧ ((decode cX12_row 78 = .ok (.aload_n 0, 1)) ∧ (decode cX12_row 79 = .ok (.bipush (-15), 2))))) := ⟨⟨⟨⟨dk_180 (dk_at wdB_3_3_42 0 _ rfl) (dk_at wdB_3_3_42 1 _ rfl) (dk_at wdB_3_3_42 2 _ rfl) rfl, dk_27 (dk_at wdB_3_3_42 3 _ rfl)⟩, ⟨dk_46 (dk_at wdB_3_3_42 4 _ rfl), dk_4 (dk_at wdB_3_3_42 5 _ rfl)⟩⟩, ⟨⟨dk_100 (dk_at wdB_3_3_42 6 _ rfl), dk_133 (dk_at wdB_3_3_42 7 _ rfl)⟩, ⟨dk_184 (dk_at wdB_3_3_42 8 _ rfl) (dk_at wdB_3_3_42 9 _ rfl) (dk_at wdB_3_3_42 10 _ rfl) rfl, dk_154 (dk_at wdB_3_3_42 11 _ rfl) (dk_at wdB_3_3_42 12 _ rfl) (dk_at wdB_3_3_42 13 _ rfl) (by decide)⟩⟩⟩, ⟨⟨⟨dk_42 (dk_at wdB_3_3_42 14 _ rfl), dk_16 (dk_at wdB_3_3_42 15 _ rfl) (dk_at wdB_3_3_42 16 _ rfl) (by decide)⟩, ⟨dk_182 (dk_at wdB_3_3_42 17 _ rfl) (dk_at wdB_3_3_42 18 _ rfl) (dk_at wdB_3_3_42 19 _ rfl) rfl, dk_172 (dk_at wdB_3_3_42 20 _ rfl)⟩⟩, ⟨⟨dk_29 (dk_at wdB_3_3_42 21 _ rfl), dk_156 (dk_at wdB_3_3_42 22 _ rfl) (dk_at wdB_3_3_42 23 _ rfl) (dk_at wdB_3_3_42 24 _ rfl) (by decide)⟩, ⟨dk_42 (dk_at wdB_3_3_42 25 _ rfl), dk_16 (dk_at wdB_3_3_42 26 _ rfl) (dk_at wdB_3_3_42 27 _ rfl) (by decide)⟩⟩⟩⟩
theorem wdB_3_3_43 : dk_bw (cX12_row.data.toList.drop 81) [182, 0, 245, 172, 42, 180, 0, 47, 16, 6, 27, 104, 28, 96, 29, 79, 3, 54, 4, 21, 4, 8, 162, 0, 26] = true := by decide +kernel
theorem dB_3_3_43 : ((((decode cX12_row 81 = .ok (.invokevirtual 245, 3)) ∧ (decode cX12_row 84 = .ok (.ireturn, 1))) ∧ ((decode cX12_row 85 = .ok (.aload_n 0, 1)) ∧ (decode cX12_row 86 = .ok (.getfield 47, 3)))) ∧ (((decode cX12_row 89 = .ok (.bipush 6, 2)) ∧ (decode cX12_row 91 = .ok (.iload_n 1, 1))) ∧ ((decode cX12_row 92 = .ok (.imul, 1)) ∧ (decode cX12_row 93 = .ok (.iload_n 2, 1))))) ∧ ((((decode cX12_row 94 = .ok (.iadd, 1)) ∧ (decode cX12_row 95 = .ok (.iload_n 3, 1))) ∧ ((decode cX12_row 96 = .ok (.iastore, 1)) ∧ (decode cX12_row 97 = .ok (.iconst 0, 1)))) ∧ (((decode cX12_row 98 = .ok (.istore 4, 2)) ∧ (decode cX12_row 100 = .ok (.iload 4, 2))) ∧ ((decode cX12_row 102 = .ok (.iconst 5, 1)) ∧ (decode cX12_row 103 = .ok (.if_icmp .ge 26, 3))))) := ⟨⟨⟨⟨dk_182 (dk_at wdB_3_3_43 0 _ rfl) (dk_at wdB_3_3_43 1 _ rfl) (dk_at wdB_3_3_43 2 _ rfl) rfl, dk_172 (dk_at wdB_3_3_43 3 _ rfl)⟩, ⟨dk_42 (dk_at wdB_3_3_43 4 _ rfl), dk_180 (dk_at wdB_3_3_43 5 _ rfl) (dk_at wdB_3_3_43 6 _ rfl) (dk_at wdB_3_3_43 7 _ rfl) rfl⟩⟩, ⟨⟨dk_16 (dk_at wdB_3_3_43 8 _ rfl) (dk_at wdB_3_3_43 9 _ rfl) (by decide), dk_27 (dk_at wdB_3_3_43 10 _ rfl)⟩, ⟨dk_104 (dk_at wdB_3_3_43 11 _ rfl), dk_28 (dk_at wdB_3_3_43 12 _ rfl)⟩⟩⟩, ⟨⟨⟨dk_96 (dk_at wdB_3_3_43 13 _ rfl), dk_29 (dk_at wdB_3_3_43 14 _ rfl)⟩, ⟨dk_79 (dk_at wdB_3_3_43 15 _ rfl), dk_3 (dk_at wdB_3_3_43 16 _ rfl)⟩⟩, ⟨⟨dk_54 (dk_at wdB_3_3_43 17 _ rfl) (dk_at wdB_3_3_43 18 _ rfl), dk_21 (dk_at wdB_3_3_43 19 _ rfl) (dk_at wdB_3_3_43 20 _ rfl)⟩, ⟨dk_8 (dk_at wdB_3_3_43 21 _ rfl), dk_162 (dk_at wdB_3_3_43 22 _ rfl) (dk_at wdB_3_3_43 23 _ rfl) (dk_at wdB_3_3_43 24 _ rfl) (by decide)⟩⟩⟩⟩
theorem wdB_3_3_44 : dk_bw (cX12_row.data.toList.drop 106) [42, 180, 0, 50, 16, 30, 27, 104, 8, 28, 104, 96, 21, 4, 96, 9, 80, 132, 4, 1, 167, 255, 230, 4] = true := by decide +kernel
theorem dB_3_3_44 : ((((decode cX12_row 106 = .ok (.aload_n 0, 1)) ∧ (decode cX12_row 107 = .ok (.getfield 50, 3))) ∧ ((decode cX12_row 110 = .ok (.bipush 30, 2)) ∧ (decode cX12_row 112 = .ok (.iload_n 1, 1)))) ∧ (((decode cX12_row 113 = .ok (.imul, 1)) ∧ (decode cX12_row 114 = .ok (.iconst 5, 1))) ∧ ((decode cX12_row 115 = .ok (.iload_n 2, 1)) ∧ (decode cX12_row 116 = .ok (.imul, 1))))) ∧ ((((decode cX12_row 117 = .ok (.iadd, 1)) ∧ (decode cX12_row 118 = .ok (.iload 4, 2))) ∧ ((decode cX12_row 120 = .ok (.iadd, 1)) ∧ (decode cX12_row 121 = .ok (.lconst 0, 1)))) ∧ (((decode cX12_row 122 = .ok (.lastore, 1)) ∧ (decode cX12_row 123 = .ok (.iinc 4 1, 3))) ∧ ((decode cX12_row 126 = .ok (.goto (-26), 3)) ∧ (decode cX12_row 129 = .ok (.iconst 1, 1))))) := ⟨⟨⟨⟨dk_42 (dk_at wdB_3_3_44 0 _ rfl), dk_180 (dk_at wdB_3_3_44 1 _ rfl) (dk_at wdB_3_3_44 2 _ rfl) (dk_at wdB_3_3_44 3 _ rfl) rfl⟩, ⟨dk_16 (dk_at wdB_3_3_44 4 _ rfl) (dk_at wdB_3_3_44 5 _ rfl) (by decide), dk_27 (dk_at wdB_3_3_44 6 _ rfl)⟩⟩, ⟨⟨dk_104 (dk_at wdB_3_3_44 7 _ rfl), dk_8 (dk_at wdB_3_3_44 8 _ rfl)⟩, ⟨dk_28 (dk_at wdB_3_3_44 9 _ rfl), dk_104 (dk_at wdB_3_3_44 10 _ rfl)⟩⟩⟩, ⟨⟨⟨dk_96 (dk_at wdB_3_3_44 11 _ rfl), dk_21 (dk_at wdB_3_3_44 12 _ rfl) (dk_at wdB_3_3_44 13 _ rfl)⟩, ⟨dk_96 (dk_at wdB_3_3_44 14 _ rfl), dk_9 (dk_at wdB_3_3_44 15 _ rfl)⟩⟩, ⟨⟨dk_80 (dk_at wdB_3_3_44 16 _ rfl), dk_132 (dk_at wdB_3_3_44 17 _ rfl) (dk_at wdB_3_3_44 18 _ rfl) (dk_at wdB_3_3_44 19 _ rfl) (by decide)⟩, ⟨dk_167 (dk_at wdB_3_3_44 20 _ rfl) (dk_at wdB_3_3_44 21 _ rfl) (dk_at wdB_3_3_44 22 _ rfl) (by decide), dk_4 (dk_at wdB_3_3_44 23 _ rfl)⟩⟩⟩⟩
theorem wdB_3_3_45 : dk_bw (cX12_row.data.toList.drop 130) [172] = true := by decide +kernel
theorem dB_3_3_45 : decode cX12_row 130 = .ok (.ireturn, 1) := dk_172 (dk_at wdB_3_3_45 0 _ rfl)
theorem wdB_3_3_46 : dk_bw (cX12_status.data.toList.drop 0) [42, 3, 181, 0, 85, 42, 180, 0, 240, 172] = true := by decide +kernel
theorem dB_3_3_46 : ((decode cX12_status 0 = .ok (.aload_n 0, 1)) ∧ ((decode cX12_status 1 = .ok (.iconst 0, 1)) ∧ (decode cX12_status 2 = .ok (.putfield 85, 3)))) ∧ ((decode cX12_status 5 = .ok (.aload_n 0, 1)) ∧ ((decode cX12_status 6 = .ok (.getfield 240, 3)) ∧ (decode cX12_status 9 = .ok (.ireturn, 1)))) := ⟨⟨dk_42 (dk_at wdB_3_3_46 0 _ rfl), ⟨dk_3 (dk_at wdB_3_3_46 1 _ rfl), dk_181 (dk_at wdB_3_3_46 2 _ rfl) (dk_at wdB_3_3_46 3 _ rfl) (dk_at wdB_3_3_46 4 _ rfl) rfl⟩⟩, ⟨dk_42 (dk_at wdB_3_3_46 5 _ rfl), ⟨dk_180 (dk_at wdB_3_3_46 6 _ rfl) (dk_at wdB_3_3_46 7 _ rfl) (dk_at wdB_3_3_46 8 _ rfl) rfl, dk_172 (dk_at wdB_3_3_46 9 _ rfl)⟩⟩⟩
theorem wdB_3_3_47 : dk_bw (cX12_trace.data.toList.drop 0) [42, 3, 181, 0, 85, 42, 180, 0, 114, 173] = true := by decide +kernel
theorem dB_3_3_47 : ((decode cX12_trace 0 = .ok (.aload_n 0, 1)) ∧ ((decode cX12_trace 1 = .ok (.iconst 0, 1)) ∧ (decode cX12_trace 2 = .ok (.putfield 85, 3)))) ∧ ((decode cX12_trace 5 = .ok (.aload_n 0, 1)) ∧ ((decode cX12_trace 6 = .ok (.getfield 114, 3)) ∧ (decode cX12_trace 9 = .ok (.lreturn, 1)))) := ⟨⟨dk_42 (dk_at wdB_3_3_47 0 _ rfl), ⟨dk_3 (dk_at wdB_3_3_47 1 _ rfl), dk_181 (dk_at wdB_3_3_47 2 _ rfl) (dk_at wdB_3_3_47 3 _ rfl) (dk_at wdB_3_3_47 4 _ rfl) rfl⟩⟩, ⟨dk_42 (dk_at wdB_3_3_47 5 _ rfl), ⟨dk_180 (dk_at wdB_3_3_47 6 _ rfl) (dk_at wdB_3_3_47 7 _ rfl) (dk_at wdB_3_3_47 8 _ rfl) rfl, dk_173 (dk_at wdB_3_3_47 9 _ rfl)⟩⟩⟩
theorem wdB_3_3_48 : dk_bw (cX12_wrong.data.toList.drop 0) [27, 133, 9, 20, 0, 243, 184, 0, 91, 153, 0, 15, 28, 133, 9, 20, 0, 149, 184, 0, 91, 154, 0, 5, 2, 172, 42, 180, 0, 38] = true := by decide +kernel
theorem dB_3_3_48 : ((((decode cX12_wrong 0 = .ok (.iload_n 1, 1)) ∧ (decode cX12_wrong 1 = .ok (.i2l, 1))) ∧ ((decode cX12_wrong 2 = .ok (.lconst 0, 1)) ∧ (decode cX12_wrong 3 = .ok (.ldc2_w 243, 3)))) ∧ (((decode cX12_wrong 6 = .ok (.invokestatic 91, 3)) ∧ (decode cX12_wrong 9 = .ok (.ifCond .eq 15, 3))) ∧ ((decode cX12_wrong 12 = .ok (.iload_n 2, 1)) ∧ (decode cX12_wrong 13 = .ok (.i2l, 1))))) ∧ ((((decode cX12_wrong 14 = .ok (.lconst 0, 1)) ∧ (decode cX12_wrong 15 = .ok (.ldc2_w 149, 3))) ∧ ((decode cX12_wrong 18 = .ok (.invokestatic 91, 3)) ∧ (decode cX12_wrong 21 = .ok (.ifCond .ne 5, 3)))) ∧ (((decode cX12_wrong 24 = .ok (.iconst (-1), 1)) ∧ (decode cX12_wrong 25 = .ok (.ireturn, 1))) ∧ ((decode cX12_wrong 26 = .ok (.aload_n 0, 1)) ∧ (decode cX12_wrong 27 = .ok (.getfield 38, 3))))) := ⟨⟨⟨⟨dk_27 (dk_at wdB_3_3_48 0 _ rfl), dk_133 (dk_at wdB_3_3_48 1 _ rfl)⟩, ⟨dk_9 (dk_at wdB_3_3_48 2 _ rfl), dk_20 (dk_at wdB_3_3_48 3 _ rfl) (dk_at wdB_3_3_48 4 _ rfl) (dk_at wdB_3_3_48 5 _ rfl) rfl⟩⟩, ⟨⟨dk_184 (dk_at wdB_3_3_48 6 _ rfl) (dk_at wdB_3_3_48 7 _ rfl) (dk_at wdB_3_3_48 8 _ rfl) rfl, dk_153 (dk_at wdB_3_3_48 9 _ rfl) (dk_at wdB_3_3_48 10 _ rfl) (dk_at wdB_3_3_48 11 _ rfl) (by decide)⟩, ⟨dk_28 (dk_at wdB_3_3_48 12 _ rfl), dk_133 (dk_at wdB_3_3_48 13 _ rfl)⟩⟩⟩, ⟨⟨⟨dk_9 (dk_at wdB_3_3_48 14 _ rfl), dk_20 (dk_at wdB_3_3_48 15 _ rfl) (dk_at wdB_3_3_48 16 _ rfl) (dk_at wdB_3_3_48 17 _ rfl) rfl⟩, ⟨dk_184 (dk_at wdB_3_3_48 18 _ rfl) (dk_at wdB_3_3_48 19 _ rfl) (dk_at wdB_3_3_48 20 _ rfl) rfl, dk_154 (dk_at wdB_3_3_48 21 _ rfl) (dk_at wdB_3_3_48 22 _ rfl) (dk_at wdB_3_3_48 23 _ rfl) (by decide)⟩⟩, ⟨⟨dk_2 (dk_at wdB_3_3_48 24 _ rfl), dk_172 (dk_at wdB_3_3_48 25 _ rfl)⟩, ⟨dk_42 (dk_at wdB_3_3_48 26 _ rfl), dk_180 (dk_at wdB_3_3_48 27 _ rfl) (dk_at wdB_3_3_48 28 _ rfl) (dk_at wdB_3_3_48 29 _ rfl) rfl⟩⟩⟩⟩
theorem wdB_3_3_49 : dk_bw (cX12_wrong.data.toList.drop 30) [27, 51, 154, 0, 6, 16, 245, 172, 42, 180, 0, 41, 27, 46, 28, 159, 0, 6, 16, 243, 172, 29, 133, 9] = true := by decide +kernel
theorem dB_3_3_49 : ((((decode cX12_wrong 30 = .ok (.iload_n 1, 1)) ∧ (decode cX12_wrong 31 = .ok (.baload, 1))) ∧ ((decode cX12_wrong 32 = .ok (.ifCond .ne 6, 3)) ∧ (decode cX12_wrong 35 = .ok (.bipush (-11), 2)))) ∧ (((decode cX12_wrong 37 = .ok (.ireturn, 1)) ∧ (decode cX12_wrong 38 = .ok (.aload_n 0, 1))) ∧ ((decode cX12_wrong 39 = .ok (.getfield 41, 3)) ∧ (decode cX12_wrong 42 = .ok (.iload_n 1, 1))))) ∧ ((((decode cX12_wrong 43 = .ok (.iaload, 1)) ∧ (decode cX12_wrong 44 = .ok (.iload_n 2, 1))) ∧ ((decode cX12_wrong 45 = .ok (.if_icmp .eq 6, 3)) ∧ (decode cX12_wrong 48 = .ok (.bipush (-13), 2)))) ∧ (((decode cX12_wrong 50 = .ok (.ireturn, 1)) ∧ (decode cX12_wrong 51 = .ok (.iload_n 3, 1))) ∧ ((decode cX12_wrong 52 = .ok (.i2l, 1)) ∧ (decode cX12_wrong 53 = .ok (.lconst 0, 1))))) := ⟨⟨⟨⟨dk_27 (dk_at wdB_3_3_49 0 _ rfl), dk_51 (dk_at wdB_3_3_49 1 _ rfl)⟩, ⟨dk_154 (dk_at wdB_3_3_49 2 _ rfl) (dk_at wdB_3_3_49 3 _ rfl) (dk_at wdB_3_3_49 4 _ rfl) (by decide), dk_16 (dk_at wdB_3_3_49 5 _ rfl) (dk_at wdB_3_3_49 6 _ rfl) (by decide)⟩⟩, ⟨⟨dk_172 (dk_at wdB_3_3_49 7 _ rfl), dk_42 (dk_at wdB_3_3_49 8 _ rfl)⟩, ⟨dk_180 (dk_at wdB_3_3_49 9 _ rfl) (dk_at wdB_3_3_49 10 _ rfl) (dk_at wdB_3_3_49 11 _ rfl) rfl, dk_27 (dk_at wdB_3_3_49 12 _ rfl)⟩⟩⟩, ⟨⟨⟨dk_46 (dk_at wdB_3_3_49 13 _ rfl), dk_28 (dk_at wdB_3_3_49 14 _ rfl)⟩, ⟨dk_159 (dk_at wdB_3_3_49 15 _ rfl) (dk_at wdB_3_3_49 16 _ rfl) (dk_at wdB_3_3_49 17 _ rfl) (by decide), dk_16 (dk_at wdB_3_3_49 18 _ rfl) (dk_at wdB_3_3_49 19 _ rfl) (by decide)⟩⟩, ⟨⟨dk_172 (dk_at wdB_3_3_49 20 _ rfl), dk_29 (dk_at wdB_3_3_49 21 _ rfl)⟩, ⟨dk_133 (dk_at wdB_3_3_49 22 _ rfl), dk_9 (dk_at wdB_3_3_49 23 _ rfl)⟩⟩⟩⟩
theorem wdB_3_3_50 : dk_bw (cX12_wrong.data.toList.drop 54) [42, 180, 0, 44, 27, 46, 4, 100, 133, 184, 0, 91, 154, 0, 6, 16, 244, 172, 42, 180, 0, 47, 16, 6, 27, 104] = true := by decide +kernel
theorem dB_3_3_50 : ((((decode cX12_wrong 54 = .ok (.aload_n 0, 1)) ∧ (decode cX12_wrong 55 = .ok (.getfield 44, 3))) ∧ ((decode cX12_wrong 58 = .ok (.iload_n 1, 1)) ∧ (decode cX12_wrong 59 = .ok (.iaload, 1)))) ∧ (((decode cX12_wrong 60 = .ok (.iconst 1, 1)) ∧ (decode cX12_wrong 61 = .ok (.isub, 1))) ∧ ((decode cX12_wrong 62 = .ok (.i2l, 1)) ∧ (decode cX12_wrong 63 = .ok (.invokestatic 91, 3))))) ∧ ((((decode cX12_wrong 66 = .ok (.ifCond .ne 6, 3)) ∧ (decode cX12_wrong 69 = .ok (.bipush (-12), 2))) ∧ ((decode cX12_wrong 71 = .ok (.ireturn, 1)) ∧ (decode cX12_wrong 72 = .ok (.aload_n 0, 1)))) ∧ (((decode cX12_wrong 73 = .ok (.getfield 47, 3)) ∧ (decode cX12_wrong 76 = .ok (.bipush 6, 2))) ∧ ((decode cX12_wrong 78 = .ok (.iload_n 1, 1)) ∧ (decode cX12_wrong 79 = .ok (.imul, 1))))) := ⟨⟨⟨⟨dk_42 (dk_at wdB_3_3_50 0 _ rfl), dk_180 (dk_at wdB_3_3_50 1 _ rfl) (dk_at wdB_3_3_50 2 _ rfl) (dk_at wdB_3_3_50 3 _ rfl) rfl⟩, ⟨dk_27 (dk_at wdB_3_3_50 4 _ rfl), dk_46 (dk_at wdB_3_3_50 5 _ rfl)⟩⟩, ⟨⟨dk_4 (dk_at wdB_3_3_50 6 _ rfl), dk_100 (dk_at wdB_3_3_50 7 _ rfl)⟩, ⟨dk_133 (dk_at wdB_3_3_50 8 _ rfl), dk_184 (dk_at wdB_3_3_50 9 _ rfl) (dk_at wdB_3_3_50 10 _ rfl) (dk_at wdB_3_3_50 11 _ rfl) rfl⟩⟩⟩, ⟨⟨⟨dk_154 (dk_at wdB_3_3_50 12 _ rfl) (dk_at wdB_3_3_50 13 _ rfl) (dk_at wdB_3_3_50 14 _ rfl) (by decide), dk_16 (dk_at wdB_3_3_50 15 _ rfl) (dk_at wdB_3_3_50 16 _ rfl) (by decide)⟩, ⟨dk_172 (dk_at wdB_3_3_50 17 _ rfl), dk_42 (dk_at wdB_3_3_50 18 _ rfl)⟩⟩, ⟨⟨dk_180 (dk_at wdB_3_3_50 19 _ rfl) (dk_at wdB_3_3_50 20 _ rfl) (dk_at wdB_3_3_50 21 _ rfl) rfl, dk_16 (dk_at wdB_3_3_50 22 _ rfl) (dk_at wdB_3_3_50 23 _ rfl) (by decide)⟩, ⟨dk_27 (dk_at wdB_3_3_50 24 _ rfl), dk_104 (dk_at wdB_3_3_50 25 _ rfl)⟩⟩⟩⟩
theorem wdB_3_3_51 : dk_bw (cX12_wrong.data.toList.drop 80) [29, 96, 46, 54, 5, 21, 5, 16, 247, 160, 0, 8, 16, 245, 167, 0, 24, 21, 4, 133, 9, 21, 5, 4, 100, 133] = true := by decide +kernel
theorem dB_3_3_51 : ((((decode cX12_wrong 80 = .ok (.iload_n 3, 1)) ∧ (decode cX12_wrong 81 = .ok (.iadd, 1))) ∧ ((decode cX12_wrong 82 = .ok (.iaload, 1)) ∧ (decode cX12_wrong 83 = .ok (.istore 5, 2)))) ∧ (((decode cX12_wrong 85 = .ok (.iload 5, 2)) ∧ (decode cX12_wrong 87 = .ok (.bipush (-9), 2))) ∧ ((decode cX12_wrong 89 = .ok (.if_icmp .ne 8, 3)) ∧ (decode cX12_wrong 92 = .ok (.bipush (-11), 2))))) ∧ ((((decode cX12_wrong 94 = .ok (.goto 24, 3)) ∧ (decode cX12_wrong 97 = .ok (.iload 4, 2))) ∧ ((decode cX12_wrong 99 = .ok (.i2l, 1)) ∧ (decode cX12_wrong 100 = .ok (.lconst 0, 1)))) ∧ (((decode cX12_wrong 101 = .ok (.iload 5, 2)) ∧ (decode cX12_wrong 103 = .ok (.iconst 1, 1))) ∧ ((decode cX12_wrong 104 = .ok (.isub, 1)) ∧ (decode cX12_wrong 105 = .ok (.i2l, 1))))) := ⟨⟨⟨⟨dk_29 (dk_at wdB_3_3_51 0 _ rfl), dk_96 (dk_at wdB_3_3_51 1 _ rfl)⟩, ⟨dk_46 (dk_at wdB_3_3_51 2 _ rfl), dk_54 (dk_at wdB_3_3_51 3 _ rfl) (dk_at wdB_3_3_51 4 _ rfl)⟩⟩, ⟨⟨dk_21 (dk_at wdB_3_3_51 5 _ rfl) (dk_at wdB_3_3_51 6 _ rfl), dk_16 (dk_at wdB_3_3_51 7 _ rfl) (dk_at wdB_3_3_51 8 _ rfl) (by decide)⟩, ⟨dk_160 (dk_at wdB_3_3_51 9 _ rfl) (dk_at wdB_3_3_51 10 _ rfl) (dk_at wdB_3_3_51 11 _ rfl) (by decide), dk_16 (dk_at wdB_3_3_51 12 _ rfl) (dk_at wdB_3_3_51 13 _ rfl) (by decide)⟩⟩⟩, ⟨⟨⟨dk_167 (dk_at wdB_3_3_51 14 _ rfl) (dk_at wdB_3_3_51 15 _ rfl) (dk_at wdB_3_3_51 16 _ rfl) (by decide), dk_21 (dk_at wdB_3_3_51 17 _ rfl) (dk_at wdB_3_3_51 18 _ rfl)⟩, ⟨dk_133 (dk_at wdB_3_3_51 19 _ rfl), dk_9 (dk_at wdB_3_3_51 20 _ rfl)⟩⟩, ⟨⟨dk_21 (dk_at wdB_3_3_51 21 _ rfl) (dk_at wdB_3_3_51 22 _ rfl), dk_4 (dk_at wdB_3_3_51 23 _ rfl)⟩, ⟨dk_100 (dk_at wdB_3_3_51 24 _ rfl), dk_133 (dk_at wdB_3_3_51 25 _ rfl)⟩⟩⟩⟩
theorem wdB_3_3_52 : dk_bw (cX12_wrong.data.toList.drop 106) [184, 0, 91, 154, 0, 8, 16, 244, 167, 0, 4, 3, 172] = true := by decide +kernel
theorem dB_3_3_52 : ((decode cX12_wrong 106 = .ok (.invokestatic 91, 3)) ∧ ((decode cX12_wrong 109 = .ok (.ifCond .ne 8, 3)) ∧ (decode cX12_wrong 112 = .ok (.bipush (-12), 2)))) ∧ ((decode cX12_wrong 114 = .ok (.goto 4, 3)) ∧ ((decode cX12_wrong 117 = .ok (.iconst 0, 1)) ∧ (decode cX12_wrong 118 = .ok (.ireturn, 1)))) := ⟨⟨dk_184 (dk_at wdB_3_3_52 0 _ rfl) (dk_at wdB_3_3_52 1 _ rfl) (dk_at wdB_3_3_52 2 _ rfl) rfl, ⟨dk_154 (dk_at wdB_3_3_52 3 _ rfl) (dk_at wdB_3_3_52 4 _ rfl) (dk_at wdB_3_3_52 5 _ rfl) (by decide), dk_16 (dk_at wdB_3_3_52 6 _ rfl) (dk_at wdB_3_3_52 7 _ rfl) (by decide)⟩⟩, ⟨dk_167 (dk_at wdB_3_3_52 8 _ rfl) (dk_at wdB_3_3_52 9 _ rfl) (dk_at wdB_3_3_52 10 _ rfl) (by decide), ⟨dk_3 (dk_at wdB_3_3_52 11 _ rfl), dk_172 (dk_at wdB_3_3_52 12 _ rfl)⟩⟩⟩
end

section
/-! ===== cells by short names ===== -/
noncomputable abbrev ai_ (cy : Nat → ClassId) (a n : Nat) (f : Nat → Int32) : Nat × va_E := (a, .inl (cy 0, n, .inl f))
noncomputable abbrev az_ (cy : Nat → ClassId) (a n : Nat) (f : Nat → Int32) : Nat × va_E := (a, .inl (cy 2, n, .inl f))
noncomputable abbrev aj_ (cy : Nat → ClassId) (a n : Nat) (f : Nat → Int64) : Nat × va_E := (a, .inl (cy 1, n, .inr (.inl f)))
noncomputable abbrev aq_ (cy : Nat → ClassId) (k a n : Nat) (f : Nat → Option Nat) : Nat × va_E := (a, .inl (cy k, n, .inr (.inr (.inr (.inr f)))))
noncomputable abbrev ob12_0_ (a : Nat) (x0 : Int32) (x1 : Int32) (x2 : Int64) (x3 : Int32) (x4 : Int32) (x5 : Nat) (x6 : Nat) (x7 : Nat) (x8 : Nat) (x9 : Nat) (x10 : Nat) (x11 : Int32) (x12 : Nat) (x13 : Nat) (x14 : Nat) (x15 : Nat) (x16 : Nat) (x17 : Nat) (x18 : Nat) (x19 : Nat) (x20 : Nat) (x21 : Int32) (x22 : Nat) (x23 : Nat) (x24 : Nat) (x25 : Int32) (x26 : Int32) (x27 : Int32) (x28 : Int32) (x29 : Nat) (x30 : Nat) (x31 : Nat) (x32 : Nat) (x33 : Nat) : Nat × va_E := (a, .inr (12, [.int x0, .int x1, .long x2, .int x3, .int x4, .ref x5, .ref x6, .ref x7, .ref x8, .ref x9, .ref x10, .int x11, .ref x12, .ref x13, .ref x14, .ref x15, .ref x16, .ref x17, .ref x18, .ref x19, .ref x20, .int x21, .ref x22, .ref x23, .ref x24, .int x25, .int x26, .int x27, .int x28, .ref x29, .ref x30, .ref x31, .ref x32, .ref x33]))
noncomputable abbrev ob5_0_ (a : Nat) : Nat × va_E := (a, .inr (5, []))
noncomputable abbrev ob8_0_ (a : Nat) : Nat × va_E := (a, .inr (8, []))
noncomputable abbrev ob3_0_ (a : Nat) (x0 : Int32) (x1 : Int32) (x2 : Nat) (x3 : Nat) (x4 : Nat) (x5 : Nat) (x6 : Nat) : Nat × va_E := (a, .inr (3, [.int x0, .int x1, .ref x2, .ref x3, .ref x4, .ref x5, .ref x6]))
noncomputable abbrev ob4_0_ (a : Nat) (x0 : Int32) (x1 : Int32) (x2 : Nat) (x3 : Nat) : Nat × va_E := (a, .inr (4, [.int x0, .int x1, .ref x2, .ref x3]))
noncomputable abbrev ob1_0_ (a : Nat) (x0 : Nat) (x1 : Nat) (x2 : Nat) : Nat × va_E := (a, .inr (1, [.ref x0, .ref x1, .ref x2]))
noncomputable abbrev ob0_0_ (a : Nat) (x0 : Nat) (x1 : Nat) (x2 : Nat) (x3 : Nat) (x4 : Nat) (x5 : Nat) (x6 : Nat) (x7 : Nat) (x8 : Nat) : Nat × va_E := (a, .inr (0, [.ref x0, .ref x1, .ref x2, .ref x3, .ref x4, .ref x5, .ref x6, .ref x7, .ref x8]))
noncomputable abbrev ob11_0_ (a : Nat) (x0 : Nat) (x1 : Nat) (x2 : Nat) (x3 : Nat) (x4 : Nat) (x5 : Nat) (x6 : Nat) (x7 : Nat) (x8 : Int32) (x9 : Int32) (x10 : Int64) (x11 : Int32) : Nat × va_E := (a, .inr (11, [.ref x0, .ref x1, .ref x2, .ref x3, .ref x4, .ref x5, .ref x6, .ref x7, .int x8, .int x9, .long x10, .int x11]))
noncomputable abbrev ob6_0_ (a : Nat) : Nat × va_E := (a, .inr (6, []))
noncomputable abbrev ob9_0_ (a : Nat) : Nat × va_E := (a, .inr (9, []))
noncomputable abbrev ob2_0_ (a : Nat) : Nat × va_E := (a, .inr (2, []))
noncomputable abbrev ob7_0_ (a : Nat) (x0 : Nat) (x1 : Int32) (x2 : Int32) (x3 : Int32) (x4 : Int32) (x5 : Int32) (x6 : Int32) (x7 : Int32) (x8 : Int32) : Nat × va_E := (a, .inr (7, [.ref x0, .int x1, .int x2, .int x3, .int x4, .int x5, .int x6, .int x7, .int x8]))
noncomputable abbrev ob10_0_ (a : Nat) (x0 : Nat) (x1 : Nat) (x2 : Nat) (x3 : Nat) (x4 : Nat) : Nat × va_E := (a, .inr (10, [.ref x0, .ref x1, .ref x2, .ref x3, .ref x4]))
noncomputable abbrev ob3_1_ (a : Nat) (x0 : Int32) (x1 : Int32) : Nat × va_E := (a, .inr (3, [.int x0, .int x1, .null, .null, .null, .null, .null]))
noncomputable abbrev ob3_2_ (a : Nat) (x0 : Int32) (x1 : Int32) (x2 : Nat) : Nat × va_E := (a, .inr (3, [.int x0, .int x1, .ref x2, .null, .null, .null, .null]))
noncomputable abbrev ob3_3_ (a : Nat) (x0 : Int32) (x1 : Int32) (x2 : Nat) (x3 : Nat) : Nat × va_E := (a, .inr (3, [.int x0, .int x1, .ref x2, .ref x3, .null, .null, .null]))
noncomputable abbrev ob3_4_ (a : Nat) (x0 : Int32) (x1 : Int32) (x2 : Nat) (x3 : Nat) (x4 : Nat) : Nat × va_E := (a, .inr (3, [.int x0, .int x1, .ref x2, .ref x3, .ref x4, .null, .null]))
noncomputable abbrev ob3_5_ (a : Nat) (x0 : Int32) (x1 : Int32) (x2 : Nat) (x3 : Nat) (x4 : Nat) (x5 : Nat) : Nat × va_E := (a, .inr (3, [.int x0, .int x1, .ref x2, .ref x3, .ref x4, .ref x5, .null]))
noncomputable abbrev ob0_1_ (a : Nat) : Nat × va_E := (a, .inr (0, [.null, .null, .null, .null, .null, .null, .null, .null, .null]))
noncomputable abbrev ob0_2_ (a : Nat) (x2 : Nat) : Nat × va_E := (a, .inr (0, [.null, .null, .ref x2, .null, .null, .null, .null, .null, .null]))
noncomputable abbrev ob0_3_ (a : Nat) (x2 : Nat) (x3 : Nat) : Nat × va_E := (a, .inr (0, [.null, .null, .ref x2, .ref x3, .null, .null, .null, .null, .null]))
noncomputable abbrev ob0_4_ (a : Nat) (x2 : Nat) (x3 : Nat) (x4 : Nat) : Nat × va_E := (a, .inr (0, [.null, .null, .ref x2, .ref x3, .ref x4, .null, .null, .null, .null]))
noncomputable abbrev ob0_5_ (a : Nat) (x2 : Nat) (x3 : Nat) (x4 : Nat) (x5 : Nat) : Nat × va_E := (a, .inr (0, [.null, .null, .ref x2, .ref x3, .ref x4, .ref x5, .null, .null, .null]))
noncomputable abbrev ob0_6_ (a : Nat) (x2 : Nat) (x3 : Nat) (x4 : Nat) (x5 : Nat) (x6 : Nat) : Nat × va_E := (a, .inr (0, [.null, .null, .ref x2, .ref x3, .ref x4, .ref x5, .ref x6, .null, .null]))
noncomputable abbrev ob0_7_ (a : Nat) (x2 : Nat) (x3 : Nat) (x4 : Nat) (x5 : Nat) (x6 : Nat) (x7 : Nat) : Nat × va_E := (a, .inr (0, [.null, .null, .ref x2, .ref x3, .ref x4, .ref x5, .ref x6, .ref x7, .null]))
noncomputable abbrev ob0_8_ (a : Nat) (x2 : Nat) (x3 : Nat) (x4 : Nat) (x5 : Nat) (x6 : Nat) (x7 : Nat) (x8 : Nat) : Nat × va_E := (a, .inr (0, [.null, .null, .ref x2, .ref x3, .ref x4, .ref x5, .ref x6, .ref x7, .ref x8]))
noncomputable abbrev ob0_9_ (a : Nat) (x0 : Nat) (x2 : Nat) (x3 : Nat) (x4 : Nat) (x5 : Nat) (x6 : Nat) (x7 : Nat) (x8 : Nat) : Nat × va_E := (a, .inr (0, [.ref x0, .null, .ref x2, .ref x3, .ref x4, .ref x5, .ref x6, .ref x7, .ref x8]))
noncomputable abbrev ob7_1_ (a : Nat) (x1 : Int32) (x2 : Int32) (x3 : Int32) (x4 : Int32) (x5 : Int32) (x6 : Int32) (x7 : Int32) (x8 : Int32) : Nat × va_E := (a, .inr (7, [.null, .int x1, .int x2, .int x3, .int x4, .int x5, .int x6, .int x7, .int x8]))
noncomputable abbrev ob1_1_ (a : Nat) : Nat × va_E := (a, .inr (1, [.null, .null, .null]))
noncomputable abbrev ob1_2_ (a : Nat) (x1 : Nat) : Nat × va_E := (a, .inr (1, [.null, .ref x1, .null]))
noncomputable abbrev ob1_3_ (a : Nat) (x1 : Nat) (x2 : Nat) : Nat × va_E := (a, .inr (1, [.null, .ref x1, .ref x2]))
noncomputable abbrev ob10_1_ (a : Nat) : Nat × va_E := (a, .inr (10, [.null, .null, .null, .null, .null]))
noncomputable abbrev ob10_2_ (a : Nat) (x2 : Nat) : Nat × va_E := (a, .inr (10, [.null, .null, .ref x2, .null, .null]))
noncomputable abbrev ob10_3_ (a : Nat) (x2 : Nat) (x3 : Nat) : Nat × va_E := (a, .inr (10, [.null, .null, .ref x2, .ref x3, .null]))
noncomputable abbrev ob10_4_ (a : Nat) (x2 : Nat) (x3 : Nat) (x4 : Nat) : Nat × va_E := (a, .inr (10, [.null, .null, .ref x2, .ref x3, .ref x4]))
noncomputable abbrev ob10_5_ (a : Nat) (x0 : Nat) (x2 : Nat) (x3 : Nat) (x4 : Nat) : Nat × va_E := (a, .inr (10, [.ref x0, .null, .ref x2, .ref x3, .ref x4]))
noncomputable abbrev ob4_1_ (a : Nat) (x0 : Int32) (x1 : Int32) : Nat × va_E := (a, .inr (4, [.int x0, .int x1, .null, .null]))
noncomputable abbrev ob4_2_ (a : Nat) (x0 : Int32) (x1 : Int32) (x2 : Nat) : Nat × va_E := (a, .inr (4, [.int x0, .int x1, .ref x2, .null]))
noncomputable abbrev ob11_1_ (a : Nat) (x8 : Int32) (x9 : Int32) (x10 : Int64) (x11 : Int32) : Nat × va_E := (a, .inr (11, [.null, .null, .null, .null, .null, .null, .null, .null, .int x8, .int x9, .long x10, .int x11]))
noncomputable abbrev ob11_2_ (a : Nat) (x0 : Nat) (x8 : Int32) (x9 : Int32) (x10 : Int64) (x11 : Int32) : Nat × va_E := (a, .inr (11, [.ref x0, .null, .null, .null, .null, .null, .null, .null, .int x8, .int x9, .long x10, .int x11]))
noncomputable abbrev ob11_3_ (a : Nat) (x0 : Nat) (x1 : Nat) (x8 : Int32) (x9 : Int32) (x10 : Int64) (x11 : Int32) : Nat × va_E := (a, .inr (11, [.ref x0, .ref x1, .null, .null, .null, .null, .null, .null, .int x8, .int x9, .long x10, .int x11]))
noncomputable abbrev ob11_4_ (a : Nat) (x0 : Nat) (x1 : Nat) (x2 : Nat) (x8 : Int32) (x9 : Int32) (x10 : Int64) (x11 : Int32) : Nat × va_E := (a, .inr (11, [.ref x0, .ref x1, .ref x2, .null, .null, .null, .null, .null, .int x8, .int x9, .long x10, .int x11]))
noncomputable abbrev ob11_5_ (a : Nat) (x0 : Nat) (x1 : Nat) (x2 : Nat) (x3 : Nat) (x8 : Int32) (x9 : Int32) (x10 : Int64) (x11 : Int32) : Nat × va_E := (a, .inr (11, [.ref x0, .ref x1, .ref x2, .ref x3, .null, .null, .null, .null, .int x8, .int x9, .long x10, .int x11]))
noncomputable abbrev ob11_6_ (a : Nat) (x0 : Nat) (x1 : Nat) (x2 : Nat) (x3 : Nat) (x4 : Nat) (x8 : Int32) (x9 : Int32) (x10 : Int64) (x11 : Int32) : Nat × va_E := (a, .inr (11, [.ref x0, .ref x1, .ref x2, .ref x3, .ref x4, .null, .null, .null, .int x8, .int x9, .long x10, .int x11]))
noncomputable abbrev ob11_7_ (a : Nat) (x0 : Nat) (x1 : Nat) (x2 : Nat) (x3 : Nat) (x4 : Nat) (x5 : Nat) (x8 : Int32) (x9 : Int32) (x10 : Int64) (x11 : Int32) : Nat × va_E := (a, .inr (11, [.ref x0, .ref x1, .ref x2, .ref x3, .ref x4, .ref x5, .null, .null, .int x8, .int x9, .long x10, .int x11]))
noncomputable abbrev ob11_8_ (a : Nat) (x0 : Nat) (x1 : Nat) (x2 : Nat) (x3 : Nat) (x4 : Nat) (x5 : Nat) (x6 : Nat) (x8 : Int32) (x9 : Int32) (x10 : Int64) (x11 : Int32) : Nat × va_E := (a, .inr (11, [.ref x0, .ref x1, .ref x2, .ref x3, .ref x4, .ref x5, .ref x6, .null, .int x8, .int x9, .long x10, .int x11]))
noncomputable abbrev ob12_1_ (a : Nat) (x0 : Int32) (x1 : Int32) (x2 : Int64) (x3 : Int32) (x4 : Int32) (x11 : Int32) (x21 : Int32) (x25 : Int32) (x26 : Int32) (x27 : Int32) (x28 : Int32) : Nat × va_E := (a, .inr (12, [.int x0, .int x1, .long x2, .int x3, .int x4, .null, .null, .null, .null, .null, .null, .int x11, .null, .null, .null, .null, .null, .null, .null, .null, .null, .int x21, .null, .null, .null, .int x25, .int x26, .int x27, .int x28, .null, .null, .null, .null, .null]))
noncomputable abbrev ob12_2_ (a : Nat) (x0 : Int32) (x1 : Int32) (x2 : Int64) (x3 : Int32) (x4 : Int32) (x5 : Nat) (x11 : Int32) (x21 : Int32) (x25 : Int32) (x26 : Int32) (x27 : Int32) (x28 : Int32) : Nat × va_E := (a, .inr (12, [.int x0, .int x1, .long x2, .int x3, .int x4, .ref x5, .null, .null, .null, .null, .null, .int x11, .null, .null, .null, .null, .null, .null, .null, .null, .null, .int x21, .null, .null, .null, .int x25, .int x26, .int x27, .int x28, .null, .null, .null, .null, .null]))
noncomputable abbrev ob12_3_ (a : Nat) (x0 : Int32) (x1 : Int32) (x2 : Int64) (x3 : Int32) (x4 : Int32) (x5 : Nat) (x6 : Nat) (x11 : Int32) (x21 : Int32) (x25 : Int32) (x26 : Int32) (x27 : Int32) (x28 : Int32) : Nat × va_E := (a, .inr (12, [.int x0, .int x1, .long x2, .int x3, .int x4, .ref x5, .ref x6, .null, .null, .null, .null, .int x11, .null, .null, .null, .null, .null, .null, .null, .null, .null, .int x21, .null, .null, .null, .int x25, .int x26, .int x27, .int x28, .null, .null, .null, .null, .null]))
noncomputable abbrev ob12_4_ (a : Nat) (x0 : Int32) (x1 : Int32) (x2 : Int64) (x3 : Int32) (x4 : Int32) (x5 : Nat) (x6 : Nat) (x7 : Nat) (x11 : Int32) (x21 : Int32) (x25 : Int32) (x26 : Int32) (x27 : Int32) (x28 : Int32) : Nat × va_E := (a, .inr (12, [.int x0, .int x1, .long x2, .int x3, .int x4, .ref x5, .ref x6, .ref x7, .null, .null, .null, .int x11, .null, .null, .null, .null, .null, .null, .null, .null, .null, .int x21, .null, .null, .null, .int x25, .int x26, .int x27, .int x28, .null, .null, .null, .null, .null]))
noncomputable abbrev ob12_5_ (a : Nat) (x0 : Int32) (x1 : Int32) (x2 : Int64) (x3 : Int32) (x4 : Int32) (x5 : Nat) (x6 : Nat) (x7 : Nat) (x8 : Nat) (x11 : Int32) (x21 : Int32) (x25 : Int32) (x26 : Int32) (x27 : Int32) (x28 : Int32) : Nat × va_E := (a, .inr (12, [.int x0, .int x1, .long x2, .int x3, .int x4, .ref x5, .ref x6, .ref x7, .ref x8, .null, .null, .int x11, .null, .null, .null, .null, .null, .null, .null, .null, .null, .int x21, .null, .null, .null, .int x25, .int x26, .int x27, .int x28, .null, .null, .null, .null, .null]))
noncomputable abbrev ob12_6_ (a : Nat) (x0 : Int32) (x1 : Int32) (x2 : Int64) (x3 : Int32) (x4 : Int32) (x5 : Nat) (x6 : Nat) (x7 : Nat) (x8 : Nat) (x9 : Nat) (x11 : Int32) (x21 : Int32) (x25 : Int32) (x26 : Int32) (x27 : Int32) (x28 : Int32) : Nat × va_E := (a, .inr (12, [.int x0, .int x1, .long x2, .int x3, .int x4, .ref x5, .ref x6, .ref x7, .ref x8, .ref x9, .null, .int x11, .null, .null, .null, .null, .null, .null, .null, .null, .null, .int x21, .null, .null, .null, .int x25, .int x26, .int x27, .int x28, .null, .null, .null, .null, .null]))
noncomputable abbrev ob12_7_ (a : Nat) (x0 : Int32) (x1 : Int32) (x2 : Int64) (x3 : Int32) (x4 : Int32) (x5 : Nat) (x6 : Nat) (x7 : Nat) (x8 : Nat) (x9 : Nat) (x10 : Nat) (x11 : Int32) (x21 : Int32) (x25 : Int32) (x26 : Int32) (x27 : Int32) (x28 : Int32) : Nat × va_E := (a, .inr (12, [.int x0, .int x1, .long x2, .int x3, .int x4, .ref x5, .ref x6, .ref x7, .ref x8, .ref x9, .ref x10, .int x11, .null, .null, .null, .null, .null, .null, .null, .null, .null, .int x21, .null, .null, .null, .int x25, .int x26, .int x27, .int x28, .null, .null, .null, .null, .null]))
noncomputable abbrev ob12_8_ (a : Nat) (x0 : Int32) (x1 : Int32) (x2 : Int64) (x3 : Int32) (x4 : Int32) (x5 : Nat) (x6 : Nat) (x7 : Nat) (x8 : Nat) (x9 : Nat) (x10 : Nat) (x11 : Int32) (x12 : Nat) (x21 : Int32) (x25 : Int32) (x26 : Int32) (x27 : Int32) (x28 : Int32) : Nat × va_E := (a, .inr (12, [.int x0, .int x1, .long x2, .int x3, .int x4, .ref x5, .ref x6, .ref x7, .ref x8, .ref x9, .ref x10, .int x11, .ref x12, .null, .null, .null, .null, .null, .null, .null, .null, .int x21, .null, .null, .null, .int x25, .int x26, .int x27, .int x28, .null, .null, .null, .null, .null]))
noncomputable abbrev ob12_9_ (a : Nat) (x0 : Int32) (x1 : Int32) (x2 : Int64) (x3 : Int32) (x4 : Int32) (x5 : Nat) (x6 : Nat) (x7 : Nat) (x8 : Nat) (x9 : Nat) (x10 : Nat) (x11 : Int32) (x12 : Nat) (x13 : Nat) (x21 : Int32) (x25 : Int32) (x26 : Int32) (x27 : Int32) (x28 : Int32) : Nat × va_E := (a, .inr (12, [.int x0, .int x1, .long x2, .int x3, .int x4, .ref x5, .ref x6, .ref x7, .ref x8, .ref x9, .ref x10, .int x11, .ref x12, .ref x13, .null, .null, .null, .null, .null, .null, .null, .int x21, .null, .null, .null, .int x25, .int x26, .int x27, .int x28, .null, .null, .null, .null, .null]))
noncomputable abbrev ob12_10_ (a : Nat) (x0 : Int32) (x1 : Int32) (x2 : Int64) (x3 : Int32) (x4 : Int32) (x5 : Nat) (x6 : Nat) (x7 : Nat) (x8 : Nat) (x9 : Nat) (x10 : Nat) (x11 : Int32) (x12 : Nat) (x13 : Nat) (x14 : Nat) (x21 : Int32) (x25 : Int32) (x26 : Int32) (x27 : Int32) (x28 : Int32) : Nat × va_E := (a, .inr (12, [.int x0, .int x1, .long x2, .int x3, .int x4, .ref x5, .ref x6, .ref x7, .ref x8, .ref x9, .ref x10, .int x11, .ref x12, .ref x13, .ref x14, .null, .null, .null, .null, .null, .null, .int x21, .null, .null, .null, .int x25, .int x26, .int x27, .int x28, .null, .null, .null, .null, .null]))
noncomputable abbrev ob12_11_ (a : Nat) (x0 : Int32) (x1 : Int32) (x2 : Int64) (x3 : Int32) (x4 : Int32) (x5 : Nat) (x6 : Nat) (x7 : Nat) (x8 : Nat) (x9 : Nat) (x10 : Nat) (x11 : Int32) (x12 : Nat) (x13 : Nat) (x14 : Nat) (x15 : Nat) (x21 : Int32) (x25 : Int32) (x26 : Int32) (x27 : Int32) (x28 : Int32) : Nat × va_E := (a, .inr (12, [.int x0, .int x1, .long x2, .int x3, .int x4, .ref x5, .ref x6, .ref x7, .ref x8, .ref x9, .ref x10, .int x11, .ref x12, .ref x13, .ref x14, .ref x15, .null, .null, .null, .null, .null, .int x21, .null, .null, .null, .int x25, .int x26, .int x27, .int x28, .null, .null, .null, .null, .null]))
noncomputable abbrev ob12_12_ (a : Nat) (x0 : Int32) (x1 : Int32) (x2 : Int64) (x3 : Int32) (x4 : Int32) (x5 : Nat) (x6 : Nat) (x7 : Nat) (x8 : Nat) (x9 : Nat) (x10 : Nat) (x11 : Int32) (x12 : Nat) (x13 : Nat) (x14 : Nat) (x15 : Nat) (x16 : Nat) (x21 : Int32) (x25 : Int32) (x26 : Int32) (x27 : Int32) (x28 : Int32) : Nat × va_E := (a, .inr (12, [.int x0, .int x1, .long x2, .int x3, .int x4, .ref x5, .ref x6, .ref x7, .ref x8, .ref x9, .ref x10, .int x11, .ref x12, .ref x13, .ref x14, .ref x15, .ref x16, .null, .null, .null, .null, .int x21, .null, .null, .null, .int x25, .int x26, .int x27, .int x28, .null, .null, .null, .null, .null]))
noncomputable abbrev ob12_13_ (a : Nat) (x0 : Int32) (x1 : Int32) (x2 : Int64) (x3 : Int32) (x4 : Int32) (x5 : Nat) (x6 : Nat) (x7 : Nat) (x8 : Nat) (x9 : Nat) (x10 : Nat) (x11 : Int32) (x12 : Nat) (x13 : Nat) (x14 : Nat) (x15 : Nat) (x16 : Nat) (x17 : Nat) (x21 : Int32) (x25 : Int32) (x26 : Int32) (x27 : Int32) (x28 : Int32) : Nat × va_E := (a, .inr (12, [.int x0, .int x1, .long x2, .int x3, .int x4, .ref x5, .ref x6, .ref x7, .ref x8, .ref x9, .ref x10, .int x11, .ref x12, .ref x13, .ref x14, .ref x15, .ref x16, .ref x17, .null, .null, .null, .int x21, .null, .null, .null, .int x25, .int x26, .int x27, .int x28, .null, .null, .null, .null, .null]))
noncomputable abbrev ob12_14_ (a : Nat) (x0 : Int32) (x1 : Int32) (x2 : Int64) (x3 : Int32) (x4 : Int32) (x5 : Nat) (x6 : Nat) (x7 : Nat) (x8 : Nat) (x9 : Nat) (x10 : Nat) (x11 : Int32) (x12 : Nat) (x13 : Nat) (x14 : Nat) (x15 : Nat) (x16 : Nat) (x17 : Nat) (x18 : Nat) (x21 : Int32) (x25 : Int32) (x26 : Int32) (x27 : Int32) (x28 : Int32) : Nat × va_E := (a, .inr (12, [.int x0, .int x1, .long x2, .int x3, .int x4, .ref x5, .ref x6, .ref x7, .ref x8, .ref x9, .ref x10, .int x11, .ref x12, .ref x13, .ref x14, .ref x15, .ref x16, .ref x17, .ref x18, .null, .null, .int x21, .null, .null, .null, .int x25, .int x26, .int x27, .int x28, .null, .null, .null, .null, .null]))
noncomputable abbrev ob12_15_ (a : Nat) (x0 : Int32) (x1 : Int32) (x2 : Int64) (x3 : Int32) (x4 : Int32) (x5 : Nat) (x6 : Nat) (x7 : Nat) (x8 : Nat) (x9 : Nat) (x10 : Nat) (x11 : Int32) (x12 : Nat) (x13 : Nat) (x14 : Nat) (x15 : Nat) (x16 : Nat) (x17 : Nat) (x18 : Nat) (x19 : Nat) (x21 : Int32) (x25 : Int32) (x26 : Int32) (x27 : Int32) (x28 : Int32) : Nat × va_E := (a, .inr (12, [.int x0, .int x1, .long x2, .int x3, .int x4, .ref x5, .ref x6, .ref x7, .ref x8, .ref x9, .ref x10, .int x11, .ref x12, .ref x13, .ref x14, .ref x15, .ref x16, .ref x17, .ref x18, .ref x19, .null, .int x21, .null, .null, .null, .int x25, .int x26, .int x27, .int x28, .null, .null, .null, .null, .null]))
noncomputable abbrev ob12_16_ (a : Nat) (x0 : Int32) (x1 : Int32) (x2 : Int64) (x3 : Int32) (x4 : Int32) (x5 : Nat) (x6 : Nat) (x7 : Nat) (x8 : Nat) (x9 : Nat) (x10 : Nat) (x11 : Int32) (x12 : Nat) (x13 : Nat) (x14 : Nat) (x15 : Nat) (x16 : Nat) (x17 : Nat) (x18 : Nat) (x19 : Nat) (x20 : Nat) (x21 : Int32) (x25 : Int32) (x26 : Int32) (x27 : Int32) (x28 : Int32) : Nat × va_E := (a, .inr (12, [.int x0, .int x1, .long x2, .int x3, .int x4, .ref x5, .ref x6, .ref x7, .ref x8, .ref x9, .ref x10, .int x11, .ref x12, .ref x13, .ref x14, .ref x15, .ref x16, .ref x17, .ref x18, .ref x19, .ref x20, .int x21, .null, .null, .null, .int x25, .int x26, .int x27, .int x28, .null, .null, .null, .null, .null]))
noncomputable abbrev ob12_17_ (a : Nat) (x0 : Int32) (x1 : Int32) (x2 : Int64) (x3 : Int32) (x4 : Int32) (x5 : Nat) (x6 : Nat) (x7 : Nat) (x8 : Nat) (x9 : Nat) (x10 : Nat) (x11 : Int32) (x12 : Nat) (x13 : Nat) (x14 : Nat) (x15 : Nat) (x16 : Nat) (x17 : Nat) (x18 : Nat) (x19 : Nat) (x20 : Nat) (x21 : Int32) (x22 : Nat) (x25 : Int32) (x26 : Int32) (x27 : Int32) (x28 : Int32) : Nat × va_E := (a, .inr (12, [.int x0, .int x1, .long x2, .int x3, .int x4, .ref x5, .ref x6, .ref x7, .ref x8, .ref x9, .ref x10, .int x11, .ref x12, .ref x13, .ref x14, .ref x15, .ref x16, .ref x17, .ref x18, .ref x19, .ref x20, .int x21, .ref x22, .null, .null, .int x25, .int x26, .int x27, .int x28, .null, .null, .null, .null, .null]))
noncomputable abbrev ob12_18_ (a : Nat) (x0 : Int32) (x1 : Int32) (x2 : Int64) (x3 : Int32) (x4 : Int32) (x5 : Nat) (x6 : Nat) (x7 : Nat) (x8 : Nat) (x9 : Nat) (x10 : Nat) (x11 : Int32) (x12 : Nat) (x13 : Nat) (x14 : Nat) (x15 : Nat) (x16 : Nat) (x17 : Nat) (x18 : Nat) (x19 : Nat) (x20 : Nat) (x21 : Int32) (x22 : Nat) (x23 : Nat) (x25 : Int32) (x26 : Int32) (x27 : Int32) (x28 : Int32) : Nat × va_E := (a, .inr (12, [.int x0, .int x1, .long x2, .int x3, .int x4, .ref x5, .ref x6, .ref x7, .ref x8, .ref x9, .ref x10, .int x11, .ref x12, .ref x13, .ref x14, .ref x15, .ref x16, .ref x17, .ref x18, .ref x19, .ref x20, .int x21, .ref x22, .ref x23, .null, .int x25, .int x26, .int x27, .int x28, .null, .null, .null, .null, .null]))
noncomputable abbrev ob12_19_ (a : Nat) (x0 : Int32) (x1 : Int32) (x2 : Int64) (x3 : Int32) (x4 : Int32) (x5 : Nat) (x6 : Nat) (x7 : Nat) (x8 : Nat) (x9 : Nat) (x10 : Nat) (x11 : Int32) (x12 : Nat) (x13 : Nat) (x14 : Nat) (x15 : Nat) (x16 : Nat) (x17 : Nat) (x18 : Nat) (x19 : Nat) (x20 : Nat) (x21 : Int32) (x22 : Nat) (x23 : Nat) (x24 : Nat) (x25 : Int32) (x26 : Int32) (x27 : Int32) (x28 : Int32) : Nat × va_E := (a, .inr (12, [.int x0, .int x1, .long x2, .int x3, .int x4, .ref x5, .ref x6, .ref x7, .ref x8, .ref x9, .ref x10, .int x11, .ref x12, .ref x13, .ref x14, .ref x15, .ref x16, .ref x17, .ref x18, .ref x19, .ref x20, .int x21, .ref x22, .ref x23, .ref x24, .int x25, .int x26, .int x27, .int x28, .null, .null, .null, .null, .null]))
noncomputable abbrev ob12_20_ (a : Nat) (x0 : Int32) (x1 : Int32) (x2 : Int64) (x3 : Int32) (x4 : Int32) (x5 : Nat) (x6 : Nat) (x7 : Nat) (x8 : Nat) (x9 : Nat) (x10 : Nat) (x11 : Int32) (x12 : Nat) (x13 : Nat) (x14 : Nat) (x15 : Nat) (x16 : Nat) (x17 : Nat) (x18 : Nat) (x19 : Nat) (x20 : Nat) (x21 : Int32) (x22 : Nat) (x23 : Nat) (x24 : Nat) (x25 : Int32) (x26 : Int32) (x27 : Int32) (x28 : Int32) (x29 : Nat) : Nat × va_E := (a, .inr (12, [.int x0, .int x1, .long x2, .int x3, .int x4, .ref x5, .ref x6, .ref x7, .ref x8, .ref x9, .ref x10, .int x11, .ref x12, .ref x13, .ref x14, .ref x15, .ref x16, .ref x17, .ref x18, .ref x19, .ref x20, .int x21, .ref x22, .ref x23, .ref x24, .int x25, .int x26, .int x27, .int x28, .ref x29, .null, .null, .null, .null]))
noncomputable abbrev ob12_21_ (a : Nat) (x0 : Int32) (x1 : Int32) (x2 : Int64) (x3 : Int32) (x4 : Int32) (x5 : Nat) (x6 : Nat) (x7 : Nat) (x8 : Nat) (x9 : Nat) (x10 : Nat) (x11 : Int32) (x12 : Nat) (x13 : Nat) (x14 : Nat) (x15 : Nat) (x16 : Nat) (x17 : Nat) (x18 : Nat) (x19 : Nat) (x20 : Nat) (x21 : Int32) (x22 : Nat) (x23 : Nat) (x24 : Nat) (x25 : Int32) (x26 : Int32) (x27 : Int32) (x28 : Int32) (x29 : Nat) (x30 : Nat) : Nat × va_E := (a, .inr (12, [.int x0, .int x1, .long x2, .int x3, .int x4, .ref x5, .ref x6, .ref x7, .ref x8, .ref x9, .ref x10, .int x11, .ref x12, .ref x13, .ref x14, .ref x15, .ref x16, .ref x17, .ref x18, .ref x19, .ref x20, .int x21, .ref x22, .ref x23, .ref x24, .int x25, .int x26, .int x27, .int x28, .ref x29, .ref x30, .null, .null, .null]))
noncomputable abbrev ob12_22_ (a : Nat) (x0 : Int32) (x1 : Int32) (x2 : Int64) (x3 : Int32) (x4 : Int32) (x5 : Nat) (x6 : Nat) (x7 : Nat) (x8 : Nat) (x9 : Nat) (x10 : Nat) (x11 : Int32) (x12 : Nat) (x13 : Nat) (x14 : Nat) (x15 : Nat) (x16 : Nat) (x17 : Nat) (x18 : Nat) (x19 : Nat) (x20 : Nat) (x21 : Int32) (x22 : Nat) (x23 : Nat) (x24 : Nat) (x25 : Int32) (x26 : Int32) (x27 : Int32) (x28 : Int32) (x29 : Nat) (x30 : Nat) (x31 : Nat) : Nat × va_E := (a, .inr (12, [.int x0, .int x1, .long x2, .int x3, .int x4, .ref x5, .ref x6, .ref x7, .ref x8, .ref x9, .ref x10, .int x11, .ref x12, .ref x13, .ref x14, .ref x15, .ref x16, .ref x17, .ref x18, .ref x19, .ref x20, .int x21, .ref x22, .ref x23, .ref x24, .int x25, .int x26, .int x27, .int x28, .ref x29, .ref x30, .ref x31, .null, .null]))
noncomputable abbrev ob12_23_ (a : Nat) (x0 : Int32) (x1 : Int32) (x2 : Int64) (x3 : Int32) (x4 : Int32) (x5 : Nat) (x6 : Nat) (x7 : Nat) (x8 : Nat) (x9 : Nat) (x10 : Nat) (x11 : Int32) (x12 : Nat) (x13 : Nat) (x14 : Nat) (x15 : Nat) (x16 : Nat) (x17 : Nat) (x18 : Nat) (x19 : Nat) (x20 : Nat) (x21 : Int32) (x22 : Nat) (x23 : Nat) (x24 : Nat) (x25 : Int32) (x26 : Int32) (x27 : Int32) (x28 : Int32) (x29 : Nat) (x30 : Nat) (x31 : Nat) (x32 : Nat) : Nat × va_E := (a, .inr (12, [.int x0, .int x1, .long x2, .int x3, .int x4, .ref x5, .ref x6, .ref x7, .ref x8, .ref x9, .ref x10, .int x11, .ref x12, .ref x13, .ref x14, .ref x15, .ref x16, .ref x17, .ref x18, .ref x19, .ref x20, .int x21, .ref x22, .ref x23, .ref x24, .int x25, .int x26, .int x27, .int x28, .ref x29, .ref x30, .ref x31, .ref x32, .null]))
set_option maxRecDepth 100000 in
theorem hd_J6_bitCount_0f7a4 : yJ6_bitCount_0f7a4.cls ≠ "java/lang/invoke/MethodHandle" ∧ yJ6_bitCount_0f7a4.cls ≠ "java/lang/invoke/VarHandle" ∧ (parseMethodDescriptor yJ6_bitCount_0f7a4.desc).map (fun d => d.parameters.length) = some 1 := by decide +kernel
set_option maxRecDepth 100000 in
theorem hd_J7_fill_53178 : yJ7_fill_53178.cls ≠ "java/lang/invoke/MethodHandle" ∧ yJ7_fill_53178.cls ≠ "java/lang/invoke/VarHandle" ∧ (parseMethodDescriptor yJ7_fill_53178.desc).map (fun d => d.parameters.length) = some 2 := by decide +kernel
set_option maxRecDepth 100000 in
theorem hd_X0_asRoom : yX0_asRoom.cls ≠ "java/lang/invoke/MethodHandle" ∧ yX0_asRoom.cls ≠ "java/lang/invoke/VarHandle" ∧ (parseMethodDescriptor yX0_asRoom.desc).map (fun d => d.parameters.length) = some 1 := by decide +kernel
set_option maxRecDepth 100000 in
theorem hd_X0_betweenSets : yX0_betweenSets.cls ≠ "java/lang/invoke/MethodHandle" ∧ yX0_betweenSets.cls ≠ "java/lang/invoke/VarHandle" ∧ (parseMethodDescriptor yX0_betweenSets.desc).map (fun d => d.parameters.length) = some 2 := by decide +kernel
set_option maxRecDepth 100000 in
theorem hd_X0_farCut : yX0_farCut.cls ≠ "java/lang/invoke/MethodHandle" ∧ yX0_farCut.cls ≠ "java/lang/invoke/VarHandle" ∧ (parseMethodDescriptor yX0_farCut.desc).map (fun d => d.parameters.length) = some 1 := by decide +kernel
set_option maxRecDepth 100000 in
theorem hd_X0_fill : yX0_fill.cls ≠ "java/lang/invoke/MethodHandle" ∧ yX0_fill.cls ≠ "java/lang/invoke/VarHandle" ∧ (parseMethodDescriptor yX0_fill.desc).map (fun d => d.parameters.length) = some 2 := by decide +kernel
set_option maxRecDepth 100000 in
theorem hd_X0_findWay : yX0_findWay.cls ≠ "java/lang/invoke/MethodHandle" ∧ yX0_findWay.cls ≠ "java/lang/invoke/VarHandle" ∧ (parseMethodDescriptor yX0_findWay.desc).map (fun d => d.parameters.length) = some 2 := by decide +kernel
set_option maxRecDepth 100000 in
theorem hd_X0_leaving : yX0_leaving.cls ≠ "java/lang/invoke/MethodHandle" ∧ yX0_leaving.cls ≠ "java/lang/invoke/VarHandle" ∧ (parseMethodDescriptor yX0_leaving.desc).map (fun d => d.parameters.length) = some 1 := by decide +kernel
set_option maxRecDepth 100000 in
theorem hd_X0_load : yX0_load.cls ≠ "java/lang/invoke/MethodHandle" ∧ yX0_load.cls ≠ "java/lang/invoke/VarHandle" ∧ (parseMethodDescriptor yX0_load.desc).map (fun d => d.parameters.length) = some 1 := by decide +kernel
set_option maxRecDepth 100000 in
theorem hd_X0_nearCut : yX0_nearCut.cls ≠ "java/lang/invoke/MethodHandle" ∧ yX0_nearCut.cls ≠ "java/lang/invoke/VarHandle" ∧ (parseMethodDescriptor yX0_nearCut.desc).map (fun d => d.parameters.length) = some 1 := by decide +kernel
set_option maxRecDepth 100000 in
theorem hd_X0_reachedFrom : yX0_reachedFrom.cls ≠ "java/lang/invoke/MethodHandle" ∧ yX0_reachedFrom.cls ≠ "java/lang/invoke/VarHandle" ∧ (parseMethodDescriptor yX0_reachedFrom.desc).map (fun d => d.parameters.length) = some 2 := by decide +kernel
set_option maxRecDepth 100000 in
theorem hd_X0_reaching : yX0_reaching.cls ≠ "java/lang/invoke/MethodHandle" ∧ yX0_reaching.cls ≠ "java/lang/invoke/VarHandle" ∧ (parseMethodDescriptor yX0_reaching.desc).map (fun d => d.parameters.length) = some 1 := by decide +kernel
set_option maxRecDepth 100000 in
theorem hd_X0_sendAlongWay : yX0_sendAlongWay.cls ≠ "java/lang/invoke/MethodHandle" ∧ yX0_sendAlongWay.cls ≠ "java/lang/invoke/VarHandle" ∧ (parseMethodDescriptor yX0_sendAlongWay.desc).map (fun d => d.parameters.length) = some 2 := by decide +kernel
set_option maxRecDepth 100000 in
theorem hd_X0_sendOver : yX0_sendOver.cls ≠ "java/lang/invoke/MethodHandle" ∧ yX0_sendOver.cls ≠ "java/lang/invoke/VarHandle" ∧ (parseMethodDescriptor yX0_sendOver.desc).map (fun d => d.parameters.length) = some 3 := by decide +kernel
set_option maxRecDepth 100000 in
theorem hd_X10_findCosts : yX10_findCosts.cls ≠ "java/lang/invoke/MethodHandle" ∧ yX10_findCosts.cls ≠ "java/lang/invoke/VarHandle" ∧ (parseMethodDescriptor yX10_findCosts.desc).map (fun d => d.parameters.length) = some 1 := by decide +kernel
set_option maxRecDepth 100000 in
theorem hd_X10_findPrices : yX10_findPrices.cls ≠ "java/lang/invoke/MethodHandle" ∧ yX10_findPrices.cls ≠ "java/lang/invoke/VarHandle" ∧ (parseMethodDescriptor yX10_findPrices.desc).map (fun d => d.parameters.length) = some 0 := by decide +kernel
set_option maxRecDepth 100000 in
theorem hd_X10_lookFrom : yX10_lookFrom.cls ≠ "java/lang/invoke/MethodHandle" ∧ yX10_lookFrom.cls ≠ "java/lang/invoke/VarHandle" ∧ (parseMethodDescriptor yX10_lookFrom.desc).map (fun d => d.parameters.length) = some 1 := by decide +kernel
set_option maxRecDepth 100000 in
theorem hd_X10_pay : yX10_pay.cls ≠ "java/lang/invoke/MethodHandle" ∧ yX10_pay.cls ≠ "java/lang/invoke/VarHandle" ∧ (parseMethodDescriptor yX10_pay.desc).map (fun d => d.parameters.length) = some 3 := by decide +kernel
set_option maxRecDepth 100000 in
theorem hd_X10_roomOfWay : yX10_roomOfWay.cls ≠ "java/lang/invoke/MethodHandle" ∧ yX10_roomOfWay.cls ≠ "java/lang/invoke/VarHandle" ∧ (parseMethodDescriptor yX10_roomOfWay.desc).map (fun d => d.parameters.length) = some 3 := by decide +kernel
set_option maxRecDepth 100000 in
theorem hd_X10_sendAlongWay : yX10_sendAlongWay.cls ≠ "java/lang/invoke/MethodHandle" ∧ yX10_sendAlongWay.cls ≠ "java/lang/invoke/VarHandle" ∧ (parseMethodDescriptor yX10_sendAlongWay.desc).map (fun d => d.parameters.length) = some 3 := by decide +kernel
set_option maxRecDepth 100000 in
theorem hd_X10_stepCosts : yX10_stepCosts.cls ≠ "java/lang/invoke/MethodHandle" ∧ yX10_stepCosts.cls ≠ "java/lang/invoke/VarHandle" ∧ (parseMethodDescriptor yX10_stepCosts.desc).map (fun d => d.parameters.length) = some 2 := by decide +kernel
set_option maxRecDepth 100000 in
theorem hd_X10_stepRoom : yX10_stepRoom.cls ≠ "java/lang/invoke/MethodHandle" ∧ yX10_stepRoom.cls ≠ "java/lang/invoke/VarHandle" ∧ (parseMethodDescriptor yX10_stepRoom.desc).map (fun d => d.parameters.length) = some 2 := by decide +kernel
set_option maxRecDepth 100000 in
theorem hd_X11_about : yX11_about.cls ≠ "java/lang/invoke/MethodHandle" ∧ yX11_about.cls ≠ "java/lang/invoke/VarHandle" ∧ (parseMethodDescriptor yX11_about.desc).map (fun d => d.parameters.length) = some 1 := by decide +kernel
set_option maxRecDepth 100000 in
theorem hd_X11_addLine : yX11_addLine.cls ≠ "java/lang/invoke/MethodHandle" ∧ yX11_addLine.cls ≠ "java/lang/invoke/VarHandle" ∧ (parseMethodDescriptor yX11_addLine.desc).map (fun d => d.parameters.length) = some 5 := by decide +kernel
set_option maxRecDepth 100000 in
theorem hd_X11_ask : yX11_ask.cls ≠ "java/lang/invoke/MethodHandle" ∧ yX11_ask.cls ≠ "java/lang/invoke/VarHandle" ∧ (parseMethodDescriptor yX11_ask.desc).map (fun d => d.parameters.length) = some 2 := by decide +kernel
set_option maxRecDepth 100000 in
theorem hd_X11_between : yX11_between.cls ≠ "java/lang/invoke/MethodHandle" ∧ yX11_between.cls ≠ "java/lang/invoke/VarHandle" ∧ (parseMethodDescriptor yX11_between.desc).map (fun d => d.parameters.length) = some 2 := by decide +kernel
set_option maxRecDepth 100000 in
theorem hd_X11_cheapest : yX11_cheapest.cls ≠ "java/lang/invoke/MethodHandle" ∧ yX11_cheapest.cls ≠ "java/lang/invoke/VarHandle" ∧ (parseMethodDescriptor yX11_cheapest.desc).map (fun d => d.parameters.length) = some 3 := by decide +kernel
set_option maxRecDepth 100000 in
theorem hd_X11_copy : yX11_copy.cls ≠ "java/lang/invoke/MethodHandle" ∧ yX11_copy.cls ≠ "java/lang/invoke/VarHandle" ∧ (parseMethodDescriptor yX11_copy.desc).map (fun d => d.parameters.length) = some 6 := by decide +kernel
set_option maxRecDepth 100000 in
theorem hd_X11_count : yX11_count.cls ≠ "java/lang/invoke/MethodHandle" ∧ yX11_count.cls ≠ "java/lang/invoke/VarHandle" ∧ (parseMethodDescriptor yX11_count.desc).map (fun d => d.parameters.length) = some 2 := by decide +kernel
set_option maxRecDepth 100000 in
theorem hd_X11_cut : yX11_cut.cls ≠ "java/lang/invoke/MethodHandle" ∧ yX11_cut.cls ≠ "java/lang/invoke/VarHandle" ∧ (parseMethodDescriptor yX11_cut.desc).map (fun d => d.parameters.length) = some 3 := by decide +kernel
set_option maxRecDepth 100000 in
theorem hd_X11_cutAt : yX11_cutAt.cls ≠ "java/lang/invoke/MethodHandle" ∧ yX11_cutAt.cls ≠ "java/lang/invoke/VarHandle" ∧ (parseMethodDescriptor yX11_cutAt.desc).map (fun d => d.parameters.length) = some 1 := by decide +kernel
set_option maxRecDepth 100000 in
theorem hd_X11_cuts : yX11_cuts.cls ≠ "java/lang/invoke/MethodHandle" ∧ yX11_cuts.cls ≠ "java/lang/invoke/VarHandle" ∧ (parseMethodDescriptor yX11_cuts.desc).map (fun d => d.parameters.length) = some 0 := by decide +kernel
set_option maxRecDepth 100000 in
theorem hd_X11_dense : yX11_dense.cls ≠ "java/lang/invoke/MethodHandle" ∧ yX11_dense.cls ≠ "java/lang/invoke/VarHandle" ∧ (parseMethodDescriptor yX11_dense.desc).map (fun d => d.parameters.length) = some 1 := by decide +kernel
set_option maxRecDepth 100000 in
theorem hd_X11_flow : yX11_flow.cls ≠ "java/lang/invoke/MethodHandle" ∧ yX11_flow.cls ≠ "java/lang/invoke/VarHandle" ∧ (parseMethodDescriptor yX11_flow.desc).map (fun d => d.parameters.length) = some 3 := by decide +kernel
set_option maxRecDepth 100000 in
theorem hd_X11_isMapKind : yX11_isMapKind.cls ≠ "java/lang/invoke/MethodHandle" ∧ yX11_isMapKind.cls ≠ "java/lang/invoke/VarHandle" ∧ (parseMethodDescriptor yX11_isMapKind.desc).map (fun d => d.parameters.length) = some 1 := by decide +kernel
set_option maxRecDepth 100000 in
theorem hd_X11_isMapNumber : yX11_isMapNumber.cls ≠ "java/lang/invoke/MethodHandle" ∧ yX11_isMapNumber.cls ≠ "java/lang/invoke/VarHandle" ∧ (parseMethodDescriptor yX11_isMapNumber.desc).map (fun d => d.parameters.length) = some 1 := by decide +kernel
set_option maxRecDepth 100000 in
theorem hd_X11_item : yX11_item.cls ≠ "java/lang/invoke/MethodHandle" ∧ yX11_item.cls ≠ "java/lang/invoke/VarHandle" ∧ (parseMethodDescriptor yX11_item.desc).map (fun d => d.parameters.length) = some 4 := by decide +kernel
set_option maxRecDepth 100000 in
theorem hd_X11_least : yX11_least.cls ≠ "java/lang/invoke/MethodHandle" ∧ yX11_least.cls ≠ "java/lang/invoke/VarHandle" ∧ (parseMethodDescriptor yX11_least.desc).map (fun d => d.parameters.length) = some 0 := by decide +kernel
set_option maxRecDepth 100000 in
theorem hd_X11_line : yX11_line.cls ≠ "java/lang/invoke/MethodHandle" ∧ yX11_line.cls ≠ "java/lang/invoke/VarHandle" ∧ (parseMethodDescriptor yX11_line.desc).map (fun d => d.parameters.length) = some 5 := by decide +kernel
set_option maxRecDepth 100000 in
theorem hd_X11_lineRefusal : yX11_lineRefusal.cls ≠ "java/lang/invoke/MethodHandle" ∧ yX11_lineRefusal.cls ≠ "java/lang/invoke/VarHandle" ∧ (parseMethodDescriptor yX11_lineRefusal.desc).map (fun d => d.parameters.length) = some 5 := by decide +kernel
set_option maxRecDepth 100000 in
theorem hd_X11_map : yX11_map.cls ≠ "java/lang/invoke/MethodHandle" ∧ yX11_map.cls ≠ "java/lang/invoke/VarHandle" ∧ (parseMethodDescriptor yX11_map.desc).map (fun d => d.parameters.length) = some 3 := by decide +kernel
set_option maxRecDepth 100000 in
theorem hd_X11_mapRefusal : yX11_mapRefusal.cls ≠ "java/lang/invoke/MethodHandle" ∧ yX11_mapRefusal.cls ≠ "java/lang/invoke/VarHandle" ∧ (parseMethodDescriptor yX11_mapRefusal.desc).map (fun d => d.parameters.length) = some 3 := by decide +kernel
set_option maxRecDepth 100000 in
theorem hd_X11_merge : yX11_merge.cls ≠ "java/lang/invoke/MethodHandle" ∧ yX11_merge.cls ≠ "java/lang/invoke/VarHandle" ∧ (parseMethodDescriptor yX11_merge.desc).map (fun d => d.parameters.length) = some 2 := by decide +kernel
set_option maxRecDepth 100000 in
theorem hd_X11_most : yX11_most.cls ≠ "java/lang/invoke/MethodHandle" ∧ yX11_most.cls ≠ "java/lang/invoke/VarHandle" ∧ (parseMethodDescriptor yX11_most.desc).map (fun d => d.parameters.length) = some 2 := by decide +kernel
set_option maxRecDepth 100000 in
theorem hd_X11_mostNow : yX11_mostNow.cls ≠ "java/lang/invoke/MethodHandle" ∧ yX11_mostNow.cls ≠ "java/lang/invoke/VarHandle" ∧ (parseMethodDescriptor yX11_mostNow.desc).map (fun d => d.parameters.length) = some 2 := by decide +kernel
set_option maxRecDepth 100000 in
theorem hd_X11_next : yX11_next.cls ≠ "java/lang/invoke/MethodHandle" ∧ yX11_next.cls ≠ "java/lang/invoke/VarHandle" ∧ (parseMethodDescriptor yX11_next.desc).map (fun d => d.parameters.length) = some 3 := by decide +kernel
set_option maxRecDepth 100000 in
theorem hd_X11_numberRefusal : yX11_numberRefusal.cls ≠ "java/lang/invoke/MethodHandle" ∧ yX11_numberRefusal.cls ≠ "java/lang/invoke/VarHandle" ∧ (parseMethodDescriptor yX11_numberRefusal.desc).map (fun d => d.parameters.length) = some 4 := by decide +kernel
set_option maxRecDepth 100000 in
theorem hd_X11_part : yX11_part.cls ≠ "java/lang/invoke/MethodHandle" ∧ yX11_part.cls ≠ "java/lang/invoke/VarHandle" ∧ (parseMethodDescriptor yX11_part.desc).map (fun d => d.parameters.length) = some 2 := by decide +kernel
set_option maxRecDepth 100000 in
theorem hd_X11_place : yX11_place.cls ≠ "java/lang/invoke/MethodHandle" ∧ yX11_place.cls ≠ "java/lang/invoke/VarHandle" ∧ (parseMethodDescriptor yX11_place.desc).map (fun d => d.parameters.length) = some 0 := by decide +kernel
set_option maxRecDepth 100000 in
theorem hd_X11_put : yX11_put.cls ≠ "java/lang/invoke/MethodHandle" ∧ yX11_put.cls ≠ "java/lang/invoke/VarHandle" ∧ (parseMethodDescriptor yX11_put.desc).map (fun d => d.parameters.length) = some 5 := by decide +kernel
set_option maxRecDepth 100000 in
theorem hd_X11_raise : yX11_raise.cls ≠ "java/lang/invoke/MethodHandle" ∧ yX11_raise.cls ≠ "java/lang/invoke/VarHandle" ∧ (parseMethodDescriptor yX11_raise.desc).map (fun d => d.parameters.length) = some 3 := by decide +kernel
set_option maxRecDepth 100000 in
theorem hd_X11_read : yX11_read.cls ≠ "java/lang/invoke/MethodHandle" ∧ yX11_read.cls ≠ "java/lang/invoke/VarHandle" ∧ (parseMethodDescriptor yX11_read.desc).map (fun d => d.parameters.length) = some 1 := by decide +kernel
set_option maxRecDepth 100000 in
theorem hd_X11_readRefusal : yX11_readRefusal.cls ≠ "java/lang/invoke/MethodHandle" ∧ yX11_readRefusal.cls ≠ "java/lang/invoke/VarHandle" ∧ (parseMethodDescriptor yX11_readRefusal.desc).map (fun d => d.parameters.length) = some 2 := by decide +kernel
set_option maxRecDepth 100000 in
theorem hd_X11_remember : yX11_remember.cls ≠ "java/lang/invoke/MethodHandle" ∧ yX11_remember.cls ≠ "java/lang/invoke/VarHandle" ∧ (parseMethodDescriptor yX11_remember.desc).map (fun d => d.parameters.length) = some 0 := by decide +kernel
set_option maxRecDepth 100000 in
theorem hd_X11_row : yX11_row.cls ≠ "java/lang/invoke/MethodHandle" ∧ yX11_row.cls ≠ "java/lang/invoke/VarHandle" ∧ (parseMethodDescriptor yX11_row.desc).map (fun d => d.parameters.length) = some 3 := by decide +kernel
set_option maxRecDepth 100000 in
theorem hd_X11_rowRefusal : yX11_rowRefusal.cls ≠ "java/lang/invoke/MethodHandle" ∧ yX11_rowRefusal.cls ≠ "java/lang/invoke/VarHandle" ∧ (parseMethodDescriptor yX11_rowRefusal.desc).map (fun d => d.parameters.length) = some 3 := by decide +kernel
set_option maxRecDepth 100000 in
theorem hd_X11_size : yX11_size.cls ≠ "java/lang/invoke/MethodHandle" ∧ yX11_size.cls ≠ "java/lang/invoke/VarHandle" ∧ (parseMethodDescriptor yX11_size.desc).map (fun d => d.parameters.length) = some 3 := by decide +kernel
set_option maxRecDepth 100000 in
theorem hd_X11_status : yX11_status.cls ≠ "java/lang/invoke/MethodHandle" ∧ yX11_status.cls ≠ "java/lang/invoke/VarHandle" ∧ (parseMethodDescriptor yX11_status.desc).map (fun d => d.parameters.length) = some 0 := by decide +kernel
set_option maxRecDepth 100000 in
theorem hd_X11_told : yX11_told.cls ≠ "java/lang/invoke/MethodHandle" ∧ yX11_told.cls ≠ "java/lang/invoke/VarHandle" ∧ (parseMethodDescriptor yX11_told.desc).map (fun d => d.parameters.length) = some 2 := by decide +kernel
set_option maxRecDepth 100000 in
theorem hd_X11_trace : yX11_trace.cls ≠ "java/lang/invoke/MethodHandle" ∧ yX11_trace.cls ≠ "java/lang/invoke/VarHandle" ∧ (parseMethodDescriptor yX11_trace.desc).map (fun d => d.parameters.length) = some 0 := by decide +kernel
set_option maxRecDepth 100000 in
theorem hd_X11_tree : yX11_tree.cls ≠ "java/lang/invoke/MethodHandle" ∧ yX11_tree.cls ≠ "java/lang/invoke/VarHandle" ∧ (parseMethodDescriptor yX11_tree.desc).map (fun d => d.parameters.length) = some 2 := by decide +kernel
set_option maxRecDepth 100000 in
theorem hd_X11_undo : yX11_undo.cls ≠ "java/lang/invoke/MethodHandle" ∧ yX11_undo.cls ≠ "java/lang/invoke/VarHandle" ∧ (parseMethodDescriptor yX11_undo.desc).map (fun d => d.parameters.length) = some 0 := by decide +kernel
set_option maxRecDepth 100000 in
theorem hd_X11_weak : yX11_weak.cls ≠ "java/lang/invoke/MethodHandle" ∧ yX11_weak.cls ≠ "java/lang/invoke/VarHandle" ∧ (parseMethodDescriptor yX11_weak.desc).map (fun d => d.parameters.length) = some 1 := by decide +kernel
set_option maxRecDepth 100000 in
theorem hd_X11_widen : yX11_widen.cls ≠ "java/lang/invoke/MethodHandle" ∧ yX11_widen.cls ≠ "java/lang/invoke/VarHandle" ∧ (parseMethodDescriptor yX11_widen.desc).map (fun d => d.parameters.length) = some 2 := by decide +kernel
set_option maxRecDepth 100000 in
theorem hd_X11_width : yX11_width.cls ≠ "java/lang/invoke/MethodHandle" ∧ yX11_width.cls ≠ "java/lang/invoke/VarHandle" ∧ (parseMethodDescriptor yX11_width.desc).map (fun d => d.parameters.length) = some 2 := by decide +kernel
set_option maxRecDepth 100000 in
theorem hd_X12_about : yX12_about.cls ≠ "java/lang/invoke/MethodHandle" ∧ yX12_about.cls ≠ "java/lang/invoke/VarHandle" ∧ (parseMethodDescriptor yX12_about.desc).map (fun d => d.parameters.length) = some 1 := by decide +kernel
set_option maxRecDepth 100000 in
theorem hd_X12_adds : yX12_adds.cls ≠ "java/lang/invoke/MethodHandle" ∧ yX12_adds.cls ≠ "java/lang/invoke/VarHandle" ∧ (parseMethodDescriptor yX12_adds.desc).map (fun d => d.parameters.length) = some 5 := by decide +kernel
set_option maxRecDepth 100000 in
theorem hd_X12_amount : yX12_amount.cls ≠ "java/lang/invoke/MethodHandle" ∧ yX12_amount.cls ≠ "java/lang/invoke/VarHandle" ∧ (parseMethodDescriptor yX12_amount.desc).map (fun d => d.parameters.length) = some 2 := by decide +kernel
set_option maxRecDepth 100000 in
theorem hd_X12_arePlaces : yX12_arePlaces.cls ≠ "java/lang/invoke/MethodHandle" ∧ yX12_arePlaces.cls ≠ "java/lang/invoke/VarHandle" ∧ (parseMethodDescriptor yX12_arePlaces.desc).map (fun d => d.parameters.length) = some 2 := by decide +kernel
set_option maxRecDepth 100000 in
theorem hd_X12_areThere : yX12_areThere.cls ≠ "java/lang/invoke/MethodHandle" ∧ yX12_areThere.cls ≠ "java/lang/invoke/VarHandle" ∧ (parseMethodDescriptor yX12_areThere.desc).map (fun d => d.parameters.length) = some 3 := by decide +kernel
set_option maxRecDepth 100000 in
theorem hd_X12_asTold : yX12_asTold.cls ≠ "java/lang/invoke/MethodHandle" ∧ yX12_asTold.cls ≠ "java/lang/invoke/VarHandle" ∧ (parseMethodDescriptor yX12_asTold.desc).map (fun d => d.parameters.length) = some 1 := by decide +kernel
set_option maxRecDepth 100000 in
theorem hd_X12_ask : yX12_ask.cls ≠ "java/lang/invoke/MethodHandle" ∧ yX12_ask.cls ≠ "java/lang/invoke/VarHandle" ∧ (parseMethodDescriptor yX12_ask.desc).map (fun d => d.parameters.length) = some 2 := by decide +kernel
set_option maxRecDepth 100000 in
theorem hd_X12_between : yX12_between.cls ≠ "java/lang/invoke/MethodHandle" ∧ yX12_between.cls ≠ "java/lang/invoke/VarHandle" ∧ (parseMethodDescriptor yX12_between.desc).map (fun d => d.parameters.length) = some 2 := by decide +kernel
set_option maxRecDepth 100000 in
theorem hd_X12_bitsOf : yX12_bitsOf.cls ≠ "java/lang/invoke/MethodHandle" ∧ yX12_bitsOf.cls ≠ "java/lang/invoke/VarHandle" ∧ (parseMethodDescriptor yX12_bitsOf.desc).map (fun d => d.parameters.length) = some 1 := by decide +kernel
set_option maxRecDepth 100000 in
theorem hd_X12_cheapWay : yX12_cheapWay.cls ≠ "java/lang/invoke/MethodHandle" ∧ yX12_cheapWay.cls ≠ "java/lang/invoke/VarHandle" ∧ (parseMethodDescriptor yX12_cheapWay.desc).map (fun d => d.parameters.length) = some 2 := by decide +kernel
set_option maxRecDepth 100000 in
theorem hd_X12_cheapest : yX12_cheapest.cls ≠ "java/lang/invoke/MethodHandle" ∧ yX12_cheapest.cls ≠ "java/lang/invoke/VarHandle" ∧ (parseMethodDescriptor yX12_cheapest.desc).map (fun d => d.parameters.length) = some 3 := by decide +kernel
set_option maxRecDepth 100000 in
theorem hd_X12_copy : yX12_copy.cls ≠ "java/lang/invoke/MethodHandle" ∧ yX12_copy.cls ≠ "java/lang/invoke/VarHandle" ∧ (parseMethodDescriptor yX12_copy.desc).map (fun d => d.parameters.length) = some 6 := by decide +kernel
set_option maxRecDepth 100000 in
theorem hd_X12_costs : yX12_costs.cls ≠ "java/lang/invoke/MethodHandle" ∧ yX12_costs.cls ≠ "java/lang/invoke/VarHandle" ∧ (parseMethodDescriptor yX12_costs.desc).map (fun d => d.parameters.length) = some 1 := by decide +kernel
set_option maxRecDepth 100000 in
theorem hd_X12_costsTrace : yX12_costsTrace.cls ≠ "java/lang/invoke/MethodHandle" ∧ yX12_costsTrace.cls ≠ "java/lang/invoke/VarHandle" ∧ (parseMethodDescriptor yX12_costsTrace.desc).map (fun d => d.parameters.length) = some 1 := by decide +kernel
set_option maxRecDepth 100000 in
theorem hd_X12_count : yX12_count.cls ≠ "java/lang/invoke/MethodHandle" ∧ yX12_count.cls ≠ "java/lang/invoke/VarHandle" ∧ (parseMethodDescriptor yX12_count.desc).map (fun d => d.parameters.length) = some 2 := by decide +kernel
set_option maxRecDepth 100000 in
theorem hd_X12_cut : yX12_cut.cls ≠ "java/lang/invoke/MethodHandle" ∧ yX12_cut.cls ≠ "java/lang/invoke/VarHandle" ∧ (parseMethodDescriptor yX12_cut.desc).map (fun d => d.parameters.length) = some 3 := by decide +kernel
set_option maxRecDepth 100000 in
theorem hd_X12_cutAt : yX12_cutAt.cls ≠ "java/lang/invoke/MethodHandle" ∧ yX12_cutAt.cls ≠ "java/lang/invoke/VarHandle" ∧ (parseMethodDescriptor yX12_cutAt.desc).map (fun d => d.parameters.length) = some 1 := by decide +kernel
set_option maxRecDepth 100000 in
theorem hd_X12_cuts : yX12_cuts.cls ≠ "java/lang/invoke/MethodHandle" ∧ yX12_cuts.cls ≠ "java/lang/invoke/VarHandle" ∧ (parseMethodDescriptor yX12_cuts.desc).map (fun d => d.parameters.length) = some 0 := by decide +kernel
set_option maxRecDepth 100000 in
theorem hd_X12_cutsOf : yX12_cutsOf.cls ≠ "java/lang/invoke/MethodHandle" ∧ yX12_cutsOf.cls ≠ "java/lang/invoke/VarHandle" ∧ (parseMethodDescriptor yX12_cutsOf.desc).map (fun d => d.parameters.length) = some 4 := by decide +kernel
set_option maxRecDepth 100000 in
theorem hd_X12_dense : yX12_dense.cls ≠ "java/lang/invoke/MethodHandle" ∧ yX12_dense.cls ≠ "java/lang/invoke/VarHandle" ∧ (parseMethodDescriptor yX12_dense.desc).map (fun d => d.parameters.length) = some 1 := by decide +kernel
set_option maxRecDepth 100000 in
theorem hd_X12_flow : yX12_flow.cls ≠ "java/lang/invoke/MethodHandle" ∧ yX12_flow.cls ≠ "java/lang/invoke/VarHandle" ∧ (parseMethodDescriptor yX12_flow.desc).map (fun d => d.parameters.length) = some 3 := by decide +kernel
set_option maxRecDepth 100000 in
theorem hd_X12_flowOf : yX12_flowOf.cls ≠ "java/lang/invoke/MethodHandle" ∧ yX12_flowOf.cls ≠ "java/lang/invoke/VarHandle" ∧ (parseMethodDescriptor yX12_flowOf.desc).map (fun d => d.parameters.length) = some 2 := by decide +kernel
set_option maxRecDepth 100000 in
theorem hd_X12_hasWay : yX12_hasWay.cls ≠ "java/lang/invoke/MethodHandle" ∧ yX12_hasWay.cls ≠ "java/lang/invoke/VarHandle" ∧ (parseMethodDescriptor yX12_hasWay.desc).map (fun d => d.parameters.length) = some 2 := by decide +kernel
set_option maxRecDepth 100000 in
theorem hd_X12_in : yX12_in.cls ≠ "java/lang/invoke/MethodHandle" ∧ yX12_in.cls ≠ "java/lang/invoke/VarHandle" ∧ (parseMethodDescriptor yX12_in.desc).map (fun d => d.parameters.length) = some 3 := by decide +kernel
set_option maxRecDepth 100000 in
theorem hd_X12_isLine : yX12_isLine.cls ≠ "java/lang/invoke/MethodHandle" ∧ yX12_isLine.cls ≠ "java/lang/invoke/VarHandle" ∧ (parseMethodDescriptor yX12_isLine.desc).map (fun d => d.parameters.length) = some 1 := by decide +kernel
set_option maxRecDepth 100000 in
theorem hd_X12_isMet : yX12_isMet.cls ≠ "java/lang/invoke/MethodHandle" ∧ yX12_isMet.cls ≠ "java/lang/invoke/VarHandle" ∧ (parseMethodDescriptor yX12_isMet.desc).map (fun d => d.parameters.length) = some 2 := by decide +kernel
set_option maxRecDepth 100000 in
theorem hd_X12_isPlace : yX12_isPlace.cls ≠ "java/lang/invoke/MethodHandle" ∧ yX12_isPlace.cls ≠ "java/lang/invoke/VarHandle" ∧ (parseMethodDescriptor yX12_isPlace.desc).map (fun d => d.parameters.length) = some 1 := by decide +kernel
set_option maxRecDepth 100000 in
theorem hd_X12_isWhole : yX12_isWhole.cls ≠ "java/lang/invoke/MethodHandle" ∧ yX12_isWhole.cls ≠ "java/lang/invoke/VarHandle" ∧ (parseMethodDescriptor yX12_isWhole.desc).map (fun d => d.parameters.length) = some 0 := by decide +kernel
set_option maxRecDepth 100000 in
theorem hd_X12_item : yX12_item.cls ≠ "java/lang/invoke/MethodHandle" ∧ yX12_item.cls ≠ "java/lang/invoke/VarHandle" ∧ (parseMethodDescriptor yX12_item.desc).map (fun d => d.parameters.length) = some 4 := by decide +kernel
set_option maxRecDepth 100000 in
theorem hd_X12_keeps : yX12_keeps.cls ≠ "java/lang/invoke/MethodHandle" ∧ yX12_keeps.cls ≠ "java/lang/invoke/VarHandle" ∧ (parseMethodDescriptor yX12_keeps.desc).map (fun d => d.parameters.length) = some 0 := by decide +kernel
set_option maxRecDepth 100000 in
theorem hd_X12_least : yX12_least.cls ≠ "java/lang/invoke/MethodHandle" ∧ yX12_least.cls ≠ "java/lang/invoke/VarHandle" ∧ (parseMethodDescriptor yX12_least.desc).map (fun d => d.parameters.length) = some 0 := by decide +kernel
set_option maxRecDepth 100000 in
theorem hd_X12_leastOf : yX12_leastOf.cls ≠ "java/lang/invoke/MethodHandle" ∧ yX12_leastOf.cls ≠ "java/lang/invoke/VarHandle" ∧ (parseMethodDescriptor yX12_leastOf.desc).map (fun d => d.parameters.length) = some 0 := by decide +kernel
set_option maxRecDepth 100000 in
theorem hd_X12_left : yX12_left.cls ≠ "java/lang/invoke/MethodHandle" ∧ yX12_left.cls ≠ "java/lang/invoke/VarHandle" ∧ (parseMethodDescriptor yX12_left.desc).map (fun d => d.parameters.length) = some 3 := by decide +kernel
set_option maxRecDepth 100000 in
theorem hd_X12_leftOf : yX12_leftOf.cls ≠ "java/lang/invoke/MethodHandle" ∧ yX12_leftOf.cls ≠ "java/lang/invoke/VarHandle" ∧ (parseMethodDescriptor yX12_leftOf.desc).map (fun d => d.parameters.length) = some 2 := by decide +kernel
set_option maxRecDepth 100000 in
theorem hd_X12_lets : yX12_lets.cls ≠ "java/lang/invoke/MethodHandle" ∧ yX12_lets.cls ≠ "java/lang/invoke/VarHandle" ∧ (parseMethodDescriptor yX12_lets.desc).map (fun d => d.parameters.length) = some 2 := by decide +kernel
set_option maxRecDepth 100000 in
theorem hd_X12_line : yX12_line.cls ≠ "java/lang/invoke/MethodHandle" ∧ yX12_line.cls ≠ "java/lang/invoke/VarHandle" ∧ (parseMethodDescriptor yX12_line.desc).map (fun d => d.parameters.length) = some 5 := by decide +kernel
set_option maxRecDepth 100000 in
theorem hd_X12_map : yX12_map.cls ≠ "java/lang/invoke/MethodHandle" ∧ yX12_map.cls ≠ "java/lang/invoke/VarHandle" ∧ (parseMethodDescriptor yX12_map.desc).map (fun d => d.parameters.length) = some 3 := by decide +kernel
set_option maxRecDepth 100000 in
theorem hd_X12_merge : yX12_merge.cls ≠ "java/lang/invoke/MethodHandle" ∧ yX12_merge.cls ≠ "java/lang/invoke/VarHandle" ∧ (parseMethodDescriptor yX12_merge.desc).map (fun d => d.parameters.length) = some 2 := by decide +kernel
set_option maxRecDepth 100000 in
theorem hd_X12_most : yX12_most.cls ≠ "java/lang/invoke/MethodHandle" ∧ yX12_most.cls ≠ "java/lang/invoke/VarHandle" ∧ (parseMethodDescriptor yX12_most.desc).map (fun d => d.parameters.length) = some 2 := by decide +kernel
set_option maxRecDepth 100000 in
theorem hd_X12_mostOf : yX12_mostOf.cls ≠ "java/lang/invoke/MethodHandle" ∧ yX12_mostOf.cls ≠ "java/lang/invoke/VarHandle" ∧ (parseMethodDescriptor yX12_mostOf.desc).map (fun d => d.parameters.length) = some 2 := by decide +kernel
set_option maxRecDepth 100000 in
theorem hd_X12_next : yX12_next.cls ≠ "java/lang/invoke/MethodHandle" ∧ yX12_next.cls ≠ "java/lang/invoke/VarHandle" ∧ (parseMethodDescriptor yX12_next.desc).map (fun d => d.parameters.length) = some 3 := by decide +kernel
set_option maxRecDepth 100000 in
theorem hd_X12_no : yX12_no.cls ≠ "java/lang/invoke/MethodHandle" ∧ yX12_no.cls ≠ "java/lang/invoke/VarHandle" ∧ (parseMethodDescriptor yX12_no.desc).map (fun d => d.parameters.length) = some 1 := by decide +kernel
set_option maxRecDepth 100000 in
theorem hd_X12_part : yX12_part.cls ≠ "java/lang/invoke/MethodHandle" ∧ yX12_part.cls ≠ "java/lang/invoke/VarHandle" ∧ (parseMethodDescriptor yX12_part.desc).map (fun d => d.parameters.length) = some 2 := by decide +kernel
set_option maxRecDepth 100000 in
theorem hd_X12_place : yX12_place.cls ≠ "java/lang/invoke/MethodHandle" ∧ yX12_place.cls ≠ "java/lang/invoke/VarHandle" ∧ (parseMethodDescriptor yX12_place.desc).map (fun d => d.parameters.length) = some 0 := by decide +kernel
set_option maxRecDepth 100000 in
theorem hd_X12_plants : yX12_plants.cls ≠ "java/lang/invoke/MethodHandle" ∧ yX12_plants.cls ≠ "java/lang/invoke/VarHandle" ∧ (parseMethodDescriptor yX12_plants.desc).map (fun d => d.parameters.length) = some 0 := by decide +kernel
set_option maxRecDepth 100000 in
theorem hd_X12_put : yX12_put.cls ≠ "java/lang/invoke/MethodHandle" ∧ yX12_put.cls ≠ "java/lang/invoke/VarHandle" ∧ (parseMethodDescriptor yX12_put.desc).map (fun d => d.parameters.length) = some 5 := by decide +kernel
set_option maxRecDepth 100000 in
theorem hd_X12_raise : yX12_raise.cls ≠ "java/lang/invoke/MethodHandle" ∧ yX12_raise.cls ≠ "java/lang/invoke/VarHandle" ∧ (parseMethodDescriptor yX12_raise.desc).map (fun d => d.parameters.length) = some 3 := by decide +kernel
set_option maxRecDepth 100000 in
theorem hd_X12_read : yX12_read.cls ≠ "java/lang/invoke/MethodHandle" ∧ yX12_read.cls ≠ "java/lang/invoke/VarHandle" ∧ (parseMethodDescriptor yX12_read.desc).map (fun d => d.parameters.length) = some 1 := by decide +kernel
set_option maxRecDepth 100000 in
theorem hd_X12_refused : yX12_refused.cls ≠ "java/lang/invoke/MethodHandle" ∧ yX12_refused.cls ≠ "java/lang/invoke/VarHandle" ∧ (parseMethodDescriptor yX12_refused.desc).map (fun d => d.parameters.length) = some 5 := by decide +kernel
set_option maxRecDepth 100000 in
theorem hd_X12_room : yX12_room.cls ≠ "java/lang/invoke/MethodHandle" ∧ yX12_room.cls ≠ "java/lang/invoke/VarHandle" ∧ (parseMethodDescriptor yX12_room.desc).map (fun d => d.parameters.length) = some 2 := by decide +kernel
set_option maxRecDepth 100000 in
theorem hd_X12_row : yX12_row.cls ≠ "java/lang/invoke/MethodHandle" ∧ yX12_row.cls ≠ "java/lang/invoke/VarHandle" ∧ (parseMethodDescriptor yX12_row.desc).map (fun d => d.parameters.length) = some 3 := by decide +kernel
set_option maxRecDepth 100000 in
theorem hd_X12_size : yX12_size.cls ≠ "java/lang/invoke/MethodHandle" ∧ yX12_size.cls ≠ "java/lang/invoke/VarHandle" ∧ (parseMethodDescriptor yX12_size.desc).map (fun d => d.parameters.length) = some 3 := by decide +kernel
set_option maxRecDepth 100000 in
theorem hd_X12_sizeOf : yX12_sizeOf.cls ≠ "java/lang/invoke/MethodHandle" ∧ yX12_sizeOf.cls ≠ "java/lang/invoke/VarHandle" ∧ (parseMethodDescriptor yX12_sizeOf.desc).map (fun d => d.parameters.length) = some 1 := by decide +kernel
set_option maxRecDepth 100000 in
theorem hd_X12_status : yX12_status.cls ≠ "java/lang/invoke/MethodHandle" ∧ yX12_status.cls ≠ "java/lang/invoke/VarHandle" ∧ (parseMethodDescriptor yX12_status.desc).map (fun d => d.parameters.length) = some 0 := by decide +kernel
set_option maxRecDepth 100000 in
theorem hd_X12_step : yX12_step.cls ≠ "java/lang/invoke/MethodHandle" ∧ yX12_step.cls ≠ "java/lang/invoke/VarHandle" ∧ (parseMethodDescriptor yX12_step.desc).map (fun d => d.parameters.length) = some 2 := by decide +kernel
set_option maxRecDepth 100000 in
theorem hd_X12_told : yX12_told.cls ≠ "java/lang/invoke/MethodHandle" ∧ yX12_told.cls ≠ "java/lang/invoke/VarHandle" ∧ (parseMethodDescriptor yX12_told.desc).map (fun d => d.parameters.length) = some 2 := by decide +kernel
set_option maxRecDepth 100000 in
theorem hd_X12_trace : yX12_trace.cls ≠ "java/lang/invoke/MethodHandle" ∧ yX12_trace.cls ≠ "java/lang/invoke/VarHandle" ∧ (parseMethodDescriptor yX12_trace.desc).map (fun d => d.parameters.length) = some 0 := by decide +kernel
set_option maxRecDepth 100000 in
theorem hd_X12_tree : yX12_tree.cls ≠ "java/lang/invoke/MethodHandle" ∧ yX12_tree.cls ≠ "java/lang/invoke/VarHandle" ∧ (parseMethodDescriptor yX12_tree.desc).map (fun d => d.parameters.length) = some 2 := by decide +kernel
set_option maxRecDepth 100000 in
theorem hd_X12_undo : yX12_undo.cls ≠ "java/lang/invoke/MethodHandle" ∧ yX12_undo.cls ≠ "java/lang/invoke/VarHandle" ∧ (parseMethodDescriptor yX12_undo.desc).map (fun d => d.parameters.length) = some 0 := by decide +kernel
set_option maxRecDepth 100000 in
theorem hd_X12_weak : yX12_weak.cls ≠ "java/lang/invoke/MethodHandle" ∧ yX12_weak.cls ≠ "java/lang/invoke/VarHandle" ∧ (parseMethodDescriptor yX12_weak.desc).map (fun d => d.parameters.length) = some 1 := by decide +kernel
set_option maxRecDepth 100000 in
theorem hd_X12_wholeCuts : yX12_wholeCuts.cls ≠ "java/lang/invoke/MethodHandle" ∧ yX12_wholeCuts.cls ≠ "java/lang/invoke/VarHandle" ∧ (parseMethodDescriptor yX12_wholeCuts.desc).map (fun d => d.parameters.length) = some 1 := by decide +kernel
set_option maxRecDepth 100000 in
theorem hd_X12_widen : yX12_widen.cls ≠ "java/lang/invoke/MethodHandle" ∧ yX12_widen.cls ≠ "java/lang/invoke/VarHandle" ∧ (parseMethodDescriptor yX12_widen.desc).map (fun d => d.parameters.length) = some 2 := by decide +kernel
set_option maxRecDepth 100000 in
theorem hd_X12_width : yX12_width.cls ≠ "java/lang/invoke/MethodHandle" ∧ yX12_width.cls ≠ "java/lang/invoke/VarHandle" ∧ (parseMethodDescriptor yX12_width.desc).map (fun d => d.parameters.length) = some 2 := by decide +kernel
set_option maxRecDepth 100000 in
theorem hd_X12_wrong : yX12_wrong.cls ≠ "java/lang/invoke/MethodHandle" ∧ yX12_wrong.cls ≠ "java/lang/invoke/VarHandle" ∧ (parseMethodDescriptor yX12_wrong.desc).map (fun d => d.parameters.length) = some 4 := by decide +kernel
set_option maxRecDepth 100000 in
theorem hd_X1_grow : yX1_grow.cls ≠ "java/lang/invoke/MethodHandle" ∧ yX1_grow.cls ≠ "java/lang/invoke/VarHandle" ∧ (parseMethodDescriptor yX1_grow.desc).map (fun d => d.parameters.length) = some 0 := by decide +kernel
set_option maxRecDepth 100000 in
theorem hd_X1_hang : yX1_hang.cls ≠ "java/lang/invoke/MethodHandle" ∧ yX1_hang.cls ≠ "java/lang/invoke/VarHandle" ∧ (parseMethodDescriptor yX1_hang.desc).map (fun d => d.parameters.length) = some 1 := by decide +kernel
set_option maxRecDepth 100000 in
theorem hd_X1_leastAlike : yX1_leastAlike.cls ≠ "java/lang/invoke/MethodHandle" ∧ yX1_leastAlike.cls ≠ "java/lang/invoke/VarHandle" ∧ (parseMethodDescriptor yX1_leastAlike.desc).map (fun d => d.parameters.length) = some 2 := by decide +kernel
set_option maxRecDepth 100000 in
theorem hd_X1_leastNumber : yX1_leastNumber.cls ≠ "java/lang/invoke/MethodHandle" ∧ yX1_leastNumber.cls ≠ "java/lang/invoke/VarHandle" ∧ (parseMethodDescriptor yX1_leastNumber.desc).map (fun d => d.parameters.length) = some 0 := by decide +kernel
set_option maxRecDepth 100000 in
theorem hd_X1_leastOnWay : yX1_leastOnWay.cls ≠ "java/lang/invoke/MethodHandle" ∧ yX1_leastOnWay.cls ≠ "java/lang/invoke/VarHandle" ∧ (parseMethodDescriptor yX1_leastOnWay.desc).map (fun d => d.parameters.length) = some 2 := by decide +kernel
set_option maxRecDepth 100000 in
theorem hd_X1_partsBelow : yX1_partsBelow.cls ≠ "java/lang/invoke/MethodHandle" ∧ yX1_partsBelow.cls ≠ "java/lang/invoke/VarHandle" ∧ (parseMethodDescriptor yX1_partsBelow.desc).map (fun d => d.parameters.length) = some 2 := by decide +kernel
set_option maxRecDepth 100000 in
theorem hd_X1_stepsToRoot : yX1_stepsToRoot.cls ≠ "java/lang/invoke/MethodHandle" ∧ yX1_stepsToRoot.cls ≠ "java/lang/invoke/VarHandle" ∧ (parseMethodDescriptor yX1_stepsToRoot.desc).map (fun d => d.parameters.length) = some 1 := by decide +kernel
set_option maxRecDepth 100000 in
theorem hd_X3_append : yX3_append.cls ≠ "java/lang/invoke/MethodHandle" ∧ yX3_append.cls ≠ "java/lang/invoke/VarHandle" ∧ (parseMethodDescriptor yX3_append.desc).map (fun d => d.parameters.length) = some 5 := by decide +kernel
set_option maxRecDepth 100000 in
theorem hd_X3_become : yX3_become.cls ≠ "java/lang/invoke/MethodHandle" ∧ yX3_become.cls ≠ "java/lang/invoke/VarHandle" ∧ (parseMethodDescriptor yX3_become.desc).map (fun d => d.parameters.length) = some 1 := by decide +kernel
set_option maxRecDepth 100000 in
theorem hd_X3_hasLine : yX3_hasLine.cls ≠ "java/lang/invoke/MethodHandle" ∧ yX3_hasLine.cls ≠ "java/lang/invoke/VarHandle" ∧ (parseMethodDescriptor yX3_hasLine.desc).map (fun d => d.parameters.length) = some 1 := by decide +kernel
set_option maxRecDepth 100000 in
theorem hd_X3_hasPair : yX3_hasPair.cls ≠ "java/lang/invoke/MethodHandle" ∧ yX3_hasPair.cls ≠ "java/lang/invoke/VarHandle" ∧ (parseMethodDescriptor yX3_hasPair.desc).map (fun d => d.parameters.length) = some 2 := by decide +kernel
set_option maxRecDepth 100000 in
theorem hd_X3_hasPlace : yX3_hasPlace.cls ≠ "java/lang/invoke/MethodHandle" ∧ yX3_hasPlace.cls ≠ "java/lang/invoke/VarHandle" ∧ (parseMethodDescriptor yX3_hasPlace.desc).map (fun d => d.parameters.length) = some 1 := by decide +kernel
set_option maxRecDepth 100000 in
theorem hd_X3_isMissing : yX3_isMissing.cls ≠ "java/lang/invoke/MethodHandle" ∧ yX3_isMissing.cls ≠ "java/lang/invoke/VarHandle" ∧ (parseMethodDescriptor yX3_isMissing.desc).map (fun d => d.parameters.length) = some 1 := by decide +kernel
set_option maxRecDepth 100000 in
theorem hd_X3_isWhole : yX3_isWhole.cls ≠ "java/lang/invoke/MethodHandle" ∧ yX3_isWhole.cls ≠ "java/lang/invoke/VarHandle" ∧ (parseMethodDescriptor yX3_isWhole.desc).map (fun d => d.parameters.length) = some 0 := by decide +kernel
set_option maxRecDepth 100000 in
theorem hd_X3_join : yX3_join.cls ≠ "java/lang/invoke/MethodHandle" ∧ yX3_join.cls ≠ "java/lang/invoke/VarHandle" ∧ (parseMethodDescriptor yX3_join.desc).map (fun d => d.parameters.length) = some 2 := by decide +kernel
set_option maxRecDepth 100000 in
theorem hd_X3_missingLines : yX3_missingLines.cls ≠ "java/lang/invoke/MethodHandle" ∧ yX3_missingLines.cls ≠ "java/lang/invoke/VarHandle" ∧ (parseMethodDescriptor yX3_missingLines.desc).map (fun d => d.parameters.length) = some 0 := by decide +kernel
set_option maxRecDepth 100000 in
theorem hd_X3_renumbered : yX3_renumbered.cls ≠ "java/lang/invoke/MethodHandle" ∧ yX3_renumbered.cls ≠ "java/lang/invoke/VarHandle" ∧ (parseMethodDescriptor yX3_renumbered.desc).map (fun d => d.parameters.length) = some 3 := by decide +kernel
set_option maxRecDepth 100000 in
theorem hd_X4_begin : yX4_begin.cls ≠ "java/lang/invoke/MethodHandle" ∧ yX4_begin.cls ≠ "java/lang/invoke/VarHandle" ∧ (parseMethodDescriptor yX4_begin.desc).map (fun d => d.parameters.length) = some 2 := by decide +kernel
set_option maxRecDepth 100000 in
theorem hd_X4_beginRow : yX4_beginRow.cls ≠ "java/lang/invoke/MethodHandle" ∧ yX4_beginRow.cls ≠ "java/lang/invoke/VarHandle" ∧ (parseMethodDescriptor yX4_beginRow.desc).map (fun d => d.parameters.length) = some 2 := by decide +kernel
set_option maxRecDepth 100000 in
theorem hd_X4_hasNumbers : yX4_hasNumbers.cls ≠ "java/lang/invoke/MethodHandle" ∧ yX4_hasNumbers.cls ≠ "java/lang/invoke/VarHandle" ∧ (parseMethodDescriptor yX4_hasNumbers.desc).map (fun d => d.parameters.length) = some 3 := by decide +kernel
set_option maxRecDepth 100000 in
theorem hd_X4_hasRow : yX4_hasRow.cls ≠ "java/lang/invoke/MethodHandle" ∧ yX4_hasRow.cls ≠ "java/lang/invoke/VarHandle" ∧ (parseMethodDescriptor yX4_hasRow.desc).map (fun d => d.parameters.length) = some 1 := by decide +kernel
set_option maxRecDepth 100000 in
theorem hd_X4_isThere : yX4_isThere.cls ≠ "java/lang/invoke/MethodHandle" ∧ yX4_isThere.cls ≠ "java/lang/invoke/VarHandle" ∧ (parseMethodDescriptor yX4_isThere.desc).map (fun d => d.parameters.length) = some 0 := by decide +kernel
set_option maxRecDepth 100000 in
theorem hd_X4_move : yX4_move.cls ≠ "java/lang/invoke/MethodHandle" ∧ yX4_move.cls ≠ "java/lang/invoke/VarHandle" ∧ (parseMethodDescriptor yX4_move.desc).map (fun d => d.parameters.length) = some 5 := by decide +kernel
set_option maxRecDepth 100000 in
theorem hd_X4_moveRefusal : yX4_moveRefusal.cls ≠ "java/lang/invoke/MethodHandle" ∧ yX4_moveRefusal.cls ≠ "java/lang/invoke/VarHandle" ∧ (parseMethodDescriptor yX4_moveRefusal.desc).map (fun d => d.parameters.length) = some 5 := by decide +kernel
set_option maxRecDepth 100000 in
theorem hd_X4_number : yX4_number.cls ≠ "java/lang/invoke/MethodHandle" ∧ yX4_number.cls ≠ "java/lang/invoke/VarHandle" ∧ (parseMethodDescriptor yX4_number.desc).map (fun d => d.parameters.length) = some 2 := by decide +kernel
set_option maxRecDepth 100000 in
theorem hd_X4_store : yX4_store.cls ≠ "java/lang/invoke/MethodHandle" ∧ yX4_store.cls ≠ "java/lang/invoke/VarHandle" ∧ (parseMethodDescriptor yX4_store.desc).map (fun d => d.parameters.length) = some 3 := by decide +kernel
set_option maxRecDepth 100000 in
theorem hd_X4_whole : yX4_whole.cls ≠ "java/lang/invoke/MethodHandle" ∧ yX4_whole.cls ≠ "java/lang/invoke/VarHandle" ∧ (parseMethodDescriptor yX4_whole.desc).map (fun d => d.parameters.length) = some 2 := by decide +kernel
set_option maxRecDepth 100000 in
theorem hd_X6_begins : yX6_begins.cls ≠ "java/lang/invoke/MethodHandle" ∧ yX6_begins.cls ≠ "java/lang/invoke/VarHandle" ∧ (parseMethodDescriptor yX6_begins.desc).map (fun d => d.parameters.length) = some 1 := by decide +kernel
set_option maxRecDepth 100000 in
theorem hd_X6_beginsMark : yX6_beginsMark.cls ≠ "java/lang/invoke/MethodHandle" ∧ yX6_beginsMark.cls ≠ "java/lang/invoke/VarHandle" ∧ (parseMethodDescriptor yX6_beginsMark.desc).map (fun d => d.parameters.length) = some 0 := by decide +kernel
set_option maxRecDepth 100000 in
theorem hd_X6_costs : yX6_costs.cls ≠ "java/lang/invoke/MethodHandle" ∧ yX6_costs.cls ≠ "java/lang/invoke/VarHandle" ∧ (parseMethodDescriptor yX6_costs.desc).map (fun d => d.parameters.length) = some 1 := by decide +kernel
set_option maxRecDepth 100000 in
theorem hd_X6_costsMark : yX6_costsMark.cls ≠ "java/lang/invoke/MethodHandle" ∧ yX6_costsMark.cls ≠ "java/lang/invoke/VarHandle" ∧ (parseMethodDescriptor yX6_costsMark.desc).map (fun d => d.parameters.length) = some 0 := by decide +kernel
set_option maxRecDepth 100000 in
theorem hd_X6_lets : yX6_lets.cls ≠ "java/lang/invoke/MethodHandle" ∧ yX6_lets.cls ≠ "java/lang/invoke/VarHandle" ∧ (parseMethodDescriptor yX6_lets.desc).map (fun d => d.parameters.length) = some 2 := by decide +kernel
set_option maxRecDepth 100000 in
theorem hd_X6_letsMark : yX6_letsMark.cls ≠ "java/lang/invoke/MethodHandle" ∧ yX6_letsMark.cls ≠ "java/lang/invoke/VarHandle" ∧ (parseMethodDescriptor yX6_letsMark.desc).map (fun d => d.parameters.length) = some 1 := by decide +kernel
set_option maxRecDepth 100000 in
theorem hd_X7_chooseForCut : yX7_chooseForCut.cls ≠ "java/lang/invoke/MethodHandle" ∧ yX7_chooseForCut.cls ≠ "java/lang/invoke/VarHandle" ∧ (parseMethodDescriptor yX7_chooseForCut.desc).map (fun d => d.parameters.length) = some 3 := by decide +kernel
set_option maxRecDepth 100000 in
theorem hd_X7_chooseForDense : yX7_chooseForDense.cls ≠ "java/lang/invoke/MethodHandle" ∧ yX7_chooseForDense.cls ≠ "java/lang/invoke/VarHandle" ∧ (parseMethodDescriptor yX7_chooseForDense.desc).map (fun d => d.parameters.length) = some 3 := by decide +kernel
set_option maxRecDepth 100000 in
theorem hd_X7_compareDense : yX7_compareDense.cls ≠ "java/lang/invoke/MethodHandle" ∧ yX7_compareDense.cls ≠ "java/lang/invoke/VarHandle" ∧ (parseMethodDescriptor yX7_compareDense.desc).map (fun d => d.parameters.length) = some 2 := by decide +kernel
set_option maxRecDepth 100000 in
theorem hd_X7_countCuts : yX7_countCuts.cls ≠ "java/lang/invoke/MethodHandle" ∧ yX7_countCuts.cls ≠ "java/lang/invoke/VarHandle" ∧ (parseMethodDescriptor yX7_countCuts.desc).map (fun d => d.parameters.length) = some 3 := by decide +kernel
set_option maxRecDepth 100000 in
theorem hd_X7_findCut : yX7_findCut.cls ≠ "java/lang/invoke/MethodHandle" ∧ yX7_findCut.cls ≠ "java/lang/invoke/VarHandle" ∧ (parseMethodDescriptor yX7_findCut.desc).map (fun d => d.parameters.length) = some 4 := by decide +kernel
set_option maxRecDepth 100000 in
theorem hd_X7_findDensest : yX7_findDensest.cls ≠ "java/lang/invoke/MethodHandle" ∧ yX7_findDensest.cls ≠ "java/lang/invoke/VarHandle" ∧ (parseMethodDescriptor yX7_findDensest.desc).map (fun d => d.parameters.length) = some 0 := by decide +kernel
set_option maxRecDepth 100000 in
theorem hd_X7_hunt : yX7_hunt.cls ≠ "java/lang/invoke/MethodHandle" ∧ yX7_hunt.cls ≠ "java/lang/invoke/VarHandle" ∧ (parseMethodDescriptor yX7_hunt.desc).map (fun d => d.parameters.length) = some 4 := by decide +kernel
set_option maxRecDepth 100000 in
theorem hd_X7_letIn : yX7_letIn.cls ≠ "java/lang/invoke/MethodHandle" ∧ yX7_letIn.cls ≠ "java/lang/invoke/VarHandle" ∧ (parseMethodDescriptor yX7_letIn.desc).map (fun d => d.parameters.length) = some 2 := by decide +kernel
set_option maxRecDepth 100000 in
theorem hd_X7_letOut : yX7_letOut.cls ≠ "java/lang/invoke/MethodHandle" ∧ yX7_letOut.cls ≠ "java/lang/invoke/VarHandle" ∧ (parseMethodDescriptor yX7_letOut.desc).map (fun d => d.parameters.length) = some 2 := by decide +kernel
set_option maxRecDepth 100000 in
theorem hd_X7_meet : yX7_meet.cls ≠ "java/lang/invoke/MethodHandle" ∧ yX7_meet.cls ≠ "java/lang/invoke/VarHandle" ∧ (parseMethodDescriptor yX7_meet.desc).map (fun d => d.parameters.length) = some 2 := by decide +kernel
/-! ===== what every contract here stands on: the array classes by number, the tables' words of the nest, and small rows ===== -/
noncomputable abbrev tt_ (cy : Nat → ClassId) : List (ClassId × FieldType) := [(cy 0, .int), (cy 1, .long), (cy 2, .boolean), (cy 3, .object RX6), (cy 4, .object RX4), (cy 5, .object RX3)]
noncomputable def nn_ (U : State) : Prop := va_Nw (.methodLinkNest RX11 9 yX6_init RX11) U ∧ va_Nw (.methodLinkNest RX11 12 yX5_init RX11) U ∧ va_Nw (.methodLinkNest RX11 15 yX9_init RX11) U ∧ va_Nw (.methodLinkNest RX11 18 yX2_init RX11) U ∧ va_Nw (.methodLinkNest RX11 21 yX8_init RX11) U ∧ va_Nw (.methodLinkNest RX11 30 yX3_init RX11) U ∧ va_Nw (.methodLinkNest RX11 71 yX4_init RX11) U
noncomputable def nk_ (U : State) : Prop := va_Nw (.methodLinkNest RX5 1 yX6_init RX11) U ∧ va_Nw (.methodLinkNest RX9 3 yX6_init RX11) U ∧ va_Nw (.methodLinkNest RX2 1 yX6_init RX11) U ∧ va_Nw (.methodLinkNest RX8 1 yX2_init RX11) U
noncomputable def na_ (U : State) : Prop := va_AO RX6 U ∧ va_AO RX4 U ∧ va_AO RX3 U ∧ va_AOA .int U
noncomputable def nc_ (U : State) : Prop := va_Nw (.castable RX5 RX6) U ∧ va_Nw (.castable RX9 RX6) U ∧ va_Nw (.castable RX2 RX6) U ∧ va_Nw (.castable RX8 RX6) U
noncomputable def kk_ (D : va_G) (cy : Nat → ClassId) (U : State) : Prop := va_K D vwCl (tt_ cy) U ∧ nn_ U ∧ nk_ U ∧ na_ U ∧ nc_ U
theorem kk_mv {D : va_G} {cy : Nat → ClassId} {s U : State} (hW : s.WarmedH U.vm) (h : kk_ D cy s) : kk_ D cy U := by
  obtain ⟨hK, ⟨a1, a2, a3, a4, a5, a6, a7⟩, ⟨b1, b2, b3, b4⟩, ⟨c1, c2, c3, c4⟩, ⟨d1, d2, d3, d4⟩⟩ := h
  exact ⟨va_K.moved hW.alike hK, ⟨va_Nw.warmM hW a1, va_Nw.warmM hW a2, va_Nw.warmM hW a3, va_Nw.warmM hW a4, va_Nw.warmM hW a5, va_Nw.warmM hW a6, va_Nw.warmM hW a7⟩, ⟨va_Nw.warmM hW b1, va_Nw.warmM hW b2, va_Nw.warmM hW b3, va_Nw.warmM hW b4⟩, ⟨c1.moved hW.alike, c2.moved hW.alike, c3.moved hW.alike, c4.moved hW.alike⟩, ⟨va_Nw.warmC hW d1, va_Nw.warmC hW d2, va_Nw.warmC hW d3, va_Nw.warmC hW d4⟩⟩
theorem kk_cl {D : va_G} {cy : Nat → ClassId} {s U : State} (hv : s.vm = U.vm) (h : kk_ D cy s) : kk_ D cy U := by
  obtain ⟨hK, ⟨a1, a2, a3, a4, a5, a6, a7⟩, ⟨b1, b2, b3, b4⟩, ⟨c1, c2, c3, c4⟩, ⟨d1, d2, d3, d4⟩⟩ := h
  have al : s.vm.Alike U.vm := by rw [hv]; exact Vm.Alike.refl U.vm
  exact ⟨va_K.moved al hK, ⟨va_Nw.same rfl hv a1, va_Nw.same rfl hv a2, va_Nw.same rfl hv a3, va_Nw.same rfl hv a4, va_Nw.same rfl hv a5, va_Nw.same rfl hv a6, va_Nw.same rfl hv a7⟩, ⟨va_Nw.same rfl hv b1, va_Nw.same rfl hv b2, va_Nw.same rfl hv b3, va_Nw.same rfl hv b4⟩, ⟨c1.moved al, c2.moved al, c3.moved al, c4.moved al⟩, ⟨va_Nw.same rfl hv d1, va_Nw.same rfl hv d2, va_Nw.same rfl hv d3, va_Nw.same rfl hv d4⟩⟩
theorem kk_nX11_9 {D : va_G} {cy : Nat → ClassId} {U : State} (h : kk_ D cy U) : va_Nw (.methodLinkNest RX11 9 yX6_init RX11) U := h.2.1.1
theorem kk_nX11_12 {D : va_G} {cy : Nat → ClassId} {U : State} (h : kk_ D cy U) : va_Nw (.methodLinkNest RX11 12 yX5_init RX11) U := h.2.1.2.1
theorem kk_nX11_15 {D : va_G} {cy : Nat → ClassId} {U : State} (h : kk_ D cy U) : va_Nw (.methodLinkNest RX11 15 yX9_init RX11) U := h.2.1.2.2.1
theorem kk_nX11_18 {D : va_G} {cy : Nat → ClassId} {U : State} (h : kk_ D cy U) : va_Nw (.methodLinkNest RX11 18 yX2_init RX11) U := h.2.1.2.2.2.1
theorem kk_nX11_21 {D : va_G} {cy : Nat → ClassId} {U : State} (h : kk_ D cy U) : va_Nw (.methodLinkNest RX11 21 yX8_init RX11) U := h.2.1.2.2.2.2.1
theorem kk_nX11_30 {D : va_G} {cy : Nat → ClassId} {U : State} (h : kk_ D cy U) : va_Nw (.methodLinkNest RX11 30 yX3_init RX11) U := h.2.1.2.2.2.2.2.1
theorem kk_nX11_71 {D : va_G} {cy : Nat → ClassId} {U : State} (h : kk_ D cy U) : va_Nw (.methodLinkNest RX11 71 yX4_init RX11) U := h.2.1.2.2.2.2.2.2
theorem kk_nX5_1 {D : va_G} {cy : Nat → ClassId} {U : State} (h : kk_ D cy U) : va_Nw (.methodLinkNest RX5 1 yX6_init RX11) U := h.2.2.1.1
theorem kk_nX9_3 {D : va_G} {cy : Nat → ClassId} {U : State} (h : kk_ D cy U) : va_Nw (.methodLinkNest RX9 3 yX6_init RX11) U := h.2.2.1.2.1
theorem kk_nX2_1 {D : va_G} {cy : Nat → ClassId} {U : State} (h : kk_ D cy U) : va_Nw (.methodLinkNest RX2 1 yX6_init RX11) U := h.2.2.1.2.2.1
theorem kk_nX8_1 {D : va_G} {cy : Nat → ClassId} {U : State} (h : kk_ D cy U) : va_Nw (.methodLinkNest RX8 1 yX2_init RX11) U := h.2.2.1.2.2.2
theorem kk_ao3 {D : va_G} {cy : Nat → ClassId} {U : State} (h : kk_ D cy U) : va_AO RX6 U := h.2.2.2.1.1
theorem kk_ao4 {D : va_G} {cy : Nat → ClassId} {U : State} (h : kk_ D cy U) : va_AO RX4 U := h.2.2.2.1.2.1
theorem kk_ao5 {D : va_G} {cy : Nat → ClassId} {U : State} (h : kk_ D cy U) : va_AO RX3 U := h.2.2.2.1.2.2.1
theorem kk_aoa {D : va_G} {cy : Nat → ClassId} {U : State} (h : kk_ D cy U) : va_AOA .int U := h.2.2.2.1.2.2.2
theorem any_of {D : va_G} {cy : Nat → ClassId} {s : State} {H : Heap} {ws : va_W} {C : String} {a q0 ci : Nat} {fs : List Value} {r : vw_C} (hc9 : va_Nw (.castable C RX6) s) (hK : kk_ D cy s) (hP : va_P D vwCl ws H) (he : ws[q0]? = some (a, .inr (ci, fs))) (hc : vwCl[ci]? = some r) (hr : r.1 = C) : va_Any RX6 s H a := by
  refine va_rAny hK.1 hP he hc (fun comp c0 h1 h2 => ?_)
  obtain ⟨c1, t1, f1, f2, f3⟩ := Cond.castable_spec (va_Nw.use (A := #[]) rfl hc9)
  rw [hr] at h2
  have e1 : c1 = c0 := Option.some.inj (f1.symm.trans h2)
  have e2 : t1 = comp := Option.some.inj (f2.symm.trans h1)
  rw [← e1, ← e2]
  exact f3
theorem kk_any5 {D : va_G} {cy : Nat → ClassId} {s : State} {H : Heap} {ws : va_W} {a : Nat} {fs : List Value} (hK : kk_ D cy s) (hP : va_P D vwCl ws H) (q0 : Nat) (he : ws[q0]? = some (a, .inr (5, fs))) : va_Any RX6 s H a := any_of hK.2.2.2.2.1 hK hP he rfl rfl
theorem kk_any9 {D : va_G} {cy : Nat → ClassId} {s : State} {H : Heap} {ws : va_W} {a : Nat} {fs : List Value} (hK : kk_ D cy s) (hP : va_P D vwCl ws H) (q0 : Nat) (he : ws[q0]? = some (a, .inr (9, fs))) : va_Any RX6 s H a := any_of hK.2.2.2.2.2.1 hK hP he rfl rfl
theorem kk_any2 {D : va_G} {cy : Nat → ClassId} {s : State} {H : Heap} {ws : va_W} {a : Nat} {fs : List Value} (hK : kk_ D cy s) (hP : va_P D vwCl ws H) (q0 : Nat) (he : ws[q0]? = some (a, .inr (2, fs))) : va_Any RX6 s H a := any_of hK.2.2.2.2.2.2.1 hK hP he rfl rfl
theorem kk_any8 {D : va_G} {cy : Nat → ClassId} {s : State} {H : Heap} {ws : va_W} {a : Nat} {fs : List Value} (hK : kk_ D cy s) (hP : va_P D vwCl ws H) (q0 : Nat) (he : ws[q0]? = some (a, .inr (8, fs))) : va_Any RX6 s H a := any_of hK.2.2.2.2.2.2.2 hK hP he rfl rfl
/-- a row of four cells -/
noncomputable def mf_ (a b c d : Nat) : Nat → Option Nat := fun i => if i = 0 then some a else if i = 1 then some b else if i = 2 then some c else if i = 3 then some d else none
/-- an int below a small bound is one of its values; what a switch asks -/
theorem sp_4 {x : Int32} (h : 0 ≤ x.toInt ∧ x.toInt < 4) : x = 0 ∨ x = 1 ∨ x = 2 ∨ x = 3 := by
  have h1 : x.toInt = 0 ∨ x.toInt = 1 ∨ x.toInt = 2 ∨ x.toInt = 3 := by omega
  rcases h1 with h | h | h | h
  · exact Or.inl (Int32.toInt_inj.mp h)
  · exact Or.inr (Or.inl (Int32.toInt_inj.mp h))
  · exact Or.inr (Or.inr (Or.inl (Int32.toInt_inj.mp h)))
  · exact Or.inr (Or.inr (Or.inr (Int32.toInt_inj.mp h)))
theorem sw_5 (x : Int32) : (x.toInt < 0 ∨ 4 < x.toInt) ∨ x.toInt = 0 ∨ x.toInt = 1 ∨ x.toInt = 2 ∨ x.toInt = 3 ∨ x.toInt = 4 := by omega
/-- a contract's start doesn't look at frames -/
theorem bl_ {av : List Value} {sz : Nat} {D : va_G} {cy : Nat → ClassId} {ws : va_W} {A : Nat → Prop} : FrameBlind (va_Pc av (fun U => U.heap.size = sz ∧ va_P D vwCl ws U.heap ∧ kk_ D cy U ∧ va_D A ws)) := fun a U g mk q => by
  obtain ⟨q0, q1, qP, qK, qD⟩ := q
  exact ⟨q0, q1, qP, kk_cl (s := U) (U := U.calling g mk a) rfl qK, qD⟩
theorem pp_nil {D : va_G} {cl : List vw_C} {H : Heap} : va_P D cl [] H := fun k q h => by simp at h
theorem dd_nil {A : Nat → Prop} : va_D A [] := ⟨fun i j p q h => by simp at h, fun k q h => by simp at h⟩
/-- behind a call that changes nothing old -/
theorem ro_keep {D : va_G} {cl : List vw_C} {ws : va_W} {H H1 : Heap} (hP : va_P D cl ws H) (hk : ∀ q : Nat, q < H.size → ¬ va_A [] H.size q → H1[q]? = H[q]?) : va_P D cl ws H1 := hP.kept (fun k q hq => by
  have hl := (hP k q hq).lt
  refine hk q.1 hl (fun h => ?_)
  rcases h with ⟨k2, e, h⟩ | h
  · simp at h
  · omega)
theorem cl_0 : (0 : Int32).toNatClampNeg = 0 := by decide
theorem cl_1 : (1 : Int32).toNatClampNeg = 1 := by decide
theorem cl_2 : (2 : Int32).toNatClampNeg = 2 := by decide
theorem cl_3 : (3 : Int32).toNatClampNeg = 3 := by decide
theorem cl_4 : (4 : Int32).toNatClampNeg = 4 := by decide
section MYW
variable {p : Program} {l : Launch} {e : Env} {R : Room} {s : State} {m : MethodId} {args : Array Value} {below : List Frame} {meth : Method} {c : Code} {H : Heap} {locs : List Loc} {cells slots : Nat} {Q : State → Prop}
variable {cc : ByteArray} {pc : Nat} {ls : Array Slot} {rest : List Value} {D : va_G} {cl : List vw_C} {A : Nat → Prop} {a : Nat} {tys : List (ClassId × FieldType)} {ws : va_W} {H0 : Heap}
theorem lv_topv {v v' : Value} (h : v = v') (k : W p l e R s m args below meth c H locs cells slots Q (F0 m pc ls (v' :: rest))) : W p l e R s m args below meth c H locs cells slots Q (F0 m pc ls (v :: rest)) := by
  subst h
  exact k
/-- a new array of a class that stands in the list of array classes -/
theorem nw_a (hexec : p.tables.exec = Jvm.exec) (hb : c.code = cc) {atype : ArrayType} {ty : FieldType} (harr : (Cond.arrayClass ty).before args s = true) (hty : newarray.typeOf atype = ty) (hK : va_K D cl tys s) (t0 : Nat) {c0 : ClassId} (ht0 : tys[t0]? = some (c0, ty)) (hob : ∀ C, ty ≠ .object C) (hP : va_P D cl ws H) (hD : va_D A ws) (hS : va_S A H0 H locs) (hA : ∀ q, H0.size ≤ q → A q)
    {n : Int32} {N' : Nat} {a0 : vp_A} (ha : ∀ cA : ClassId, vp_cell cA a0 = arrV cA N' (fun _ => defaultValue ty)) (hn : ¬ n < 0) (hN : n.toNatClampNeg = N') (hbytes : N' * componentBytes ty ≤ 536870912) (hcells : cells + 1 ≤ R.cells) (hslots : slots + N' ≤ R.slots) (hdg : decode cc pc = .ok (.newarray atype, 2))
    (kk : ∀ (q : Nat) (H1 : Heap), va_P D cl (ws ++ [(q, .inl (c0, a0))]) H1 → va_D A (ws ++ [(q, .inl (c0, a0))]) → va_S A H0 H1 locs →
      W p l e R s m args below meth c H1 locs (cells + 1) (slots + N') Q (F0 m (pc + 2) ls (.ref q :: rest))) : W p l e R s m args below meth c H locs cells slots Q (F0 m pc ls (.int n :: rest)) := by
  subst hty
  refine va_newa hexec hb harr rfl hK hP hD hS hA ha hn hN hbytes hcells hslots hdg (fun q cA H1 hK' hP' hD' hS' => ?_)
  have e1 : va_RA s cA (newarray.typeOf atype) := (hK'.2 tys.length (cA, newarray.typeOf atype) (by simp)).2
  have e0 : va_RA s c0 (newarray.typeOf atype) := (hK.2 t0 (c0, newarray.typeOf atype) ht0).2
  have e2 : cA = c0 := by
    cases atype <;> exact Option.some.inj (e1.symm.trans e0)
  subst e2
  exact kk q H1 hP' hD' hS'
theorem nw_q (hexec : p.tables.exec = Jvm.exec) (hb : c.code = cc) {own C : String} {index : Nat} (hown : s.vm.findClass own = some m.cls) (hclink : (Cond.classLink own index C).before args s = true) (hover : va_AO C s) (hK : va_K D cl tys s) (t0 : Nat) {c0 : ClassId} (ht0 : tys[t0]? = some (c0, .object C)) (hP : va_P D cl ws H) (hD : va_D A ws) (hS : va_S A H0 H locs) (hA : ∀ q, H0.size ≤ q → A q)
    {n : Int32} {N' : Nat} (hn : ¬ n < 0) (hN : n.toNatClampNeg = N') (hbytes : N' * 4 ≤ 536870912) (hcells : cells + 1 ≤ R.cells) (hslots : slots + N' ≤ R.slots) (hdg : decode cc pc = .ok (.anewarray index, 3))
    (kk : ∀ (q : Nat) (H1 : Heap), va_P D cl (ws ++ [(q, .inl (c0, N', .inr (.inr (.inr (.inr (fun _ => none))))))]) H1 → va_D A (ws ++ [(q, .inl (c0, N', .inr (.inr (.inr (.inr (fun _ => none))))))]) → va_S A H0 H1 locs →
      W p l e R s m args below meth c H1 locs (cells + 1) (slots + N') Q (F0 m (pc + 3) ls (.ref q :: rest))) : W p l e R s m args below meth c H locs cells slots Q (F0 m pc ls (.int n :: rest)) := by
  refine va_newq hexec hb hown hclink hover hK hP hD hS hA hn hN hbytes hcells hslots hdg (fun q cA H1 hK' hP' hD' hS' => ?_)
  obtain ⟨-, -, -, -, -, e1⟩ := (hK'.2 tys.length (cA, .object C) (by simp)).2
  obtain ⟨-, -, -, -, -, e0⟩ := (hK.2 t0 (c0, .object C) ht0).2
  have e2 : cA = c0 := Option.some.inj (e1.symm.trans e0)
  subst e2
  exact kk q H1 hP' hD' hS'
theorem pp_left {X Y : va_W} (h : va_P D cl (X ++ Y) H) : va_P D cl X H := fun k q hq => h k q (by
  have hl : k < X.length := (List.getElem?_eq_some_iff.mp hq).1
  rw [List.getElem?_append_left hl]
  exact hq)
theorem dd_left {X Y : va_W} (h : va_D A (X ++ Y)) : va_D A X := by
  have e : ∀ (k : Nat) (q : Nat × va_E), X[k]? = some q → (X ++ Y)[k]? = some q := fun k q hq => by
    have hl : k < X.length := (List.getElem?_eq_some_iff.mp hq).1
    rw [List.getElem?_append_left hl]
    exact hq
  exact ⟨fun i j p q hi hj => h.1 i j p q (e i p hi) (e j q hj), fun k q hk => h.2 k q (e k q hk)⟩
/-- new int[12][12]: nothing is told of its cells -/
theorem mn_a {cy : Nat → ClassId} (hexec : p.tables.exec = Jvm.exec) (hb : c.code = cc) {own : String} {index : Nat} (hown : s.vm.findClass own = some m.cls) (hclink : (Cond.classLink own index "[[I").before args s = true) (hK : kk_ D cy s) (harr : (Cond.arrayClass .int).before args s = true) (hP : va_P D vwCl ws H) (hD : va_D A ws) (hS : va_S A H0 H locs) (hA : ∀ q, H0.size ≤ q → A q)
    (hcells : cells + 13 ≤ R.cells) (hslots : slots + 156 ≤ R.slots) (hdg : decode cc pc = .ok (.multianewarray index 2, 4))
    (kk : ∀ (q : Nat) (H1 : Heap), va_P D vwCl ws H1 → va_D A ws → va_S A H0 H1 locs →
      W p l e R s m args below meth c H1 locs (cells + 1 + 12) (slots + 12 + 144) Q (F0 m (pc + 4) ls (.ref q :: rest))) : W p l e R s m args below meth c H locs cells slots Q (F0 m pc ls (.int 12 :: .int 12 :: rest)) := by
  have hcy : s.vm.findClass (FieldType.array .int).toString = some (cy 0) := (hK.1.2 0 (cy 0, .int) rfl).2
  refine va_mna (X := ws) (L := []) (f := fun _ => .inl (cy 0, (12, .inl (fun _ => 0)))) (ty := .int) (cy := cy 0) (N' := 12) (K' := 12) (z := (12, .inl (fun _ => 0))) hexec hb hown hclink (kk_aoa hK) harr hcy hK.1 (by simpa [va_pl] using hP) (by simpa [va_pl] using hD) hS hA (by decide) (by decide) (by decide) (by decide) (by decide) (by decide) (by decide) rfl rfl hcells hslots (fun c9 => ?_) hdg (fun q r cA H1 _ _ _ hP1 hD1 hS1 => ?_)
  · rw [vp_cell_i, ← arrV_new]
    rfl
  · exact kk q H1 (pp_left (pp_left hP1)) (dd_left (dd_left hD1)) hS1
end MYW
end

section
/-! ===== rows for contracts with ranges and loops ===== -/
/-- a contract's proof, its end named Q -/
theorem ofQ {l : Launch} {y : MethodName} {ws ws' : List Cond} {rm : Room} {Pc : Array Value → State → Prop} {Qc : Array Value → State → Outcome → State → Prop} {mc ms : Nat} {free : Addr → Prop} {cc : ByteArray} {maxL : Nat} {ret : Option FieldType}
    (hy : plainName y.cls = true) (hw : ws = Cond.code y cc maxL ret :: ws')
    (body : ∀ p e s m args below meth c s₁ (Q : State → Prop), Q = MQ below Qc args s mc ms free → BodyLoose p l y (headSpec ws rm) cc maxL ret e s m args below meth c s₁ → c.maxLocals = maxL → Pc args s →
      W p l e rm s m args below meth c s.heap [] 0 0 Q (entryFrame m args maxL)) : Met l y ws rm Pc Qc mc ms free :=
  Met.ofW hy hw (fun p e s m args below meth c s₁ B hml hv => body p e s m args below meth c s₁ _ rfl B hml hv)
/-- the first n numbers of a row lie between two bounds -/
noncomputable def rng (f : Nat → Int32) (n : Nat) (lo hi : Int) : Prop := ∀ j : Nat, j < n → lo ≤ (f j).toInt ∧ (f j).toInt ≤ hi
theorem rng_upd {f : Nat → Int32} {n : Nat} {lo hi : Int} {k : Nat} {x : Int32} (h : rng f n lo hi) (h1 : lo ≤ x.toInt) (h2 : x.toInt ≤ hi) : rng (upd f k x) n lo hi := fun j hj => by
  by_cases e : j = k
  · subst e
    rw [pk_us]
    exact ⟨h1, h2⟩
  · rw [pk_un e]
    exact h j hj
theorem rng_zero {n : Nat} {lo hi : Int} (h1 : lo ≤ 0) (h2 : 0 ≤ hi) : rng (fun _ => 0) n lo hi := fun j _ => by
  have z : (0 : Int32).toInt = 0 := by decide
  show lo ≤ (0 : Int32).toInt ∧ (0 : Int32).toInt ≤ hi
  exact ⟨by omega, by omega⟩
theorem in_lt {i : Int32} {n : Nat} (h : vp_in i n) : i.toNatClampNeg < n := Nat.not_le.mp fun q => h (Or.inr q)
theorem in_I {i : Int32} {n : Nat} (h1 : 0 ≤ i.toInt) (h2 : i.toInt < n) : vp_in i n := vp_in_iff.mpr ⟨h1, h2⟩
theorem addI {a b : Int32} (h1 : -2147483648 ≤ a.toInt + b.toInt) (h2 : a.toInt + b.toInt ≤ 2147483647) : (a + b).toInt = a.toInt + b.toInt := by
  rw [Int32.toInt_add]
  exact Int.bmod_eq_of_le (by omega) (by omega)
theorem subI {a b : Int32} (h1 : -2147483648 ≤ a.toInt - b.toInt) (h2 : a.toInt - b.toInt ≤ 2147483647) : (a - b).toInt = a.toInt - b.toInt := by
  rw [Int32.toInt_sub]
  exact Int.bmod_eq_of_le (by omega) (by omega)
theorem mulI {a b : Int32} (h1 : -2147483648 ≤ a.toInt * b.toInt) (h2 : a.toInt * b.toInt ≤ 2147483647) : (a * b).toInt = a.toInt * b.toInt := by
  rw [Int32.toInt_mul]
  exact Int.bmod_eq_of_le (by omega) (by omega)
theorem clI {i : Int32} (h : 0 ≤ i.toInt) : ((i.toNatClampNeg : Nat) : Int) = i.toInt := by
  show ((i.toInt.toNat : Nat) : Int) = i.toInt
  omega
theorem negI {a : Int32} (h : -2147483647 ≤ a.toInt) : (-a).toInt = -a.toInt := by
  rw [Int32.toInt_neg]
  have h2 := Int32.toInt_lt a
  exact Int.bmod_eq_of_le (by omega) (by omega)
/-- 1 << p for a place's number -/
theorem shl1 {x : Int32} (h0 : 0 ≤ x.toInt) (h1 : x.toInt ≤ 12) : 1 ≤ ((1 : Int32) <<< (x &&& 31)).toInt ∧ ((1 : Int32) <<< (x &&& 31)).toInt ≤ 4096 := by
  have h : x.toInt = 0 ∨ x.toInt = 1 ∨ x.toInt = 2 ∨ x.toInt = 3 ∨ x.toInt = 4 ∨ x.toInt = 5 ∨ x.toInt = 6 ∨ x.toInt = 7 ∨ x.toInt = 8 ∨ x.toInt = 9 ∨ x.toInt = 10 ∨ x.toInt = 11 ∨ x.toInt = 12 := by omega
  rcases h with h | h | h | h | h | h | h | h | h | h | h | h | h
  · obtain rfl : x = 0 := Int32.toInt_inj.mp h
    decide
  · obtain rfl : x = 1 := Int32.toInt_inj.mp h
    decide
  · obtain rfl : x = 2 := Int32.toInt_inj.mp h
    decide
  · obtain rfl : x = 3 := Int32.toInt_inj.mp h
    decide
  · obtain rfl : x = 4 := Int32.toInt_inj.mp h
    decide
  · obtain rfl : x = 5 := Int32.toInt_inj.mp h
    decide
  · obtain rfl : x = 6 := Int32.toInt_inj.mp h
    decide
  · obtain rfl : x = 7 := Int32.toInt_inj.mp h
    decide
  · obtain rfl : x = 8 := Int32.toInt_inj.mp h
    decide
  · obtain rfl : x = 9 := Int32.toInt_inj.mp h
    decide
  · obtain rfl : x = 10 := Int32.toInt_inj.mp h
    decide
  · obtain rfl : x = 11 := Int32.toInt_inj.mp h
    decide
  · obtain rfl : x = 12 := Int32.toInt_inj.mp h
    decide
theorem b01 {a : Int32} (h : a.toInt = 0 ∨ a.toInt = 1) : a = 0 ∨ a = 1 := by
  rcases h with h | h
  · exact Or.inl (Int32.toInt_inj.mp h)
  · exact Or.inr (Int32.toInt_inj.mp h)
theorem or01 {a b : Int32} (ha : a.toInt = 0 ∨ a.toInt = 1) (hb : b.toInt = 0 ∨ b.toInt = 1) : (a ||| b).toInt = 0 ∨ (a ||| b).toInt = 1 := by
  rcases b01 ha with rfl | rfl <;> rcases b01 hb with rfl | rfl <;> decide
theorem and01 {a b : Int32} (ha : a.toInt = 0 ∨ a.toInt = 1) (hb : b.toInt = 0 ∨ b.toInt = 1) : (a &&& b).toInt = 0 ∨ (a &&& b).toInt = 1 := by
  rcases b01 ha with rfl | rfl <;> rcases b01 hb with rfl | rfl <;> decide
theorem nar_b {v : Int32} (h : v.toInt = 0 ∨ v.toInt = 1) : narrow .boolean (.int v) = .int v := by
  rcases b01 h with rfl | rfl <;> decide
theorem mulC {a b : Int32} {k : Int} (h : a.toInt = k) (h1 : -2147483648 ≤ k * b.toInt) (h2 : k * b.toInt ≤ 2147483647) : (a * b).toInt = k * b.toInt := by
  rw [Int32.toInt_mul, h]
  exact Int.bmod_eq_of_le (by omega) (by omega)
theorem mulD {a b : Int32} {k : Int} (h : b.toInt = k) (h1 : -2147483648 ≤ k * a.toInt) (h2 : k * a.toInt ≤ 2147483647) : (a * b).toInt = k * a.toInt := by
  rw [Int32.toInt_mul, h, Int.mul_comm]
  exact Int.bmod_eq_of_le (by omega) (by omega)
/-- the row of kept nets: a line's numbers by their places mod 5 -/
noncomputable def oc (k : Nat) (x : Int) : Prop := ((k % 5 = 1 ∨ k % 5 = 2) → 0 ≤ x ∧ x ≤ 11) ∧ (k % 5 = 3 → 0 ≤ x ∧ x ≤ 2000) ∧ (k % 5 = 4 → (0 ≤ x ∧ x ≤ 100) ∨ (1000 ≤ x ∧ x ≤ 1100))
noncomputable def orng (f : Nat → Int32) (n : Nat) : Prop := ∀ j : Nat, j < n → oc j (f j).toInt
theorem orng_upd {f : Nat → Int32} {n k : Nat} {x : Int32} (h : orng f n) (hx : oc k x.toInt) : orng (upd f k x) n := fun j hj => by
  by_cases e : j = k
  · subst e
    rw [pk_us]
    exact hx
  · rw [pk_un e]
    exact h j hj
theorem orng_zero {n : Nat} : orng (fun _ => 0) n := fun j _ => by
  have z : (0 : Int32).toInt = 0 := by decide
  show oc j (0 : Int32).toInt
  unfold oc
  omega
/-- x % 1000 of a price that is kept -/
theorem rem1000 {x : Int32} (h : (0 ≤ x.toInt ∧ x.toInt ≤ 100) ∨ (1000 ≤ x.toInt ∧ x.toInt ≤ 1100)) : 0 ≤ (x - x / 1000 * 1000).toInt ∧ (x - x / 1000 * 1000).toInt ≤ 100 := by
  obtain ⟨j, hj, rfl⟩ := nI_of (x := x) (fun h => by
    have := Int32.lt_iff_toInt_lt.mp h
    have z : (0 : Int32).toInt = 0 := by decide
    omega)
  have e : (1000 : Int32) = nI 1000 := rfl
  rw [nI_toInt hj] at h
  rw [e, pk_rem hj (by decide) (by decide), nI_toInt (by omega)]
  omega
theorem addL {a b : Int64} (h1 : -9223372036854775808 ≤ a.toInt + b.toInt) (h2 : a.toInt + b.toInt ≤ 9223372036854775807) : (a + b).toInt = a.toInt + b.toInt := by
  rw [Int64.toInt_add]
  exact Int.bmod_eq_of_le (by omega) (by omega)
theorem va_recvX {s : State} {H : Heap} {D : va_G} {cl : List vw_C} {a q0 ci n : Nat} {C : String} {T : u_T} {fs : List Value} {ws : va_W} {tys : List (ClassId × FieldType)} (hK : va_K D cl tys s) (hP : va_P D cl ws H) (hc : cl[ci]? = some (C, T, n)) (he : ws[q0]? = some (a, .inr (ci, fs))) : ∃ cell : Cell, H[a]? = some cell ∧ cell.vm.isStatics = false ∧ s.vm.findClass C = some cell.cls := va_recv hK hP hc he
/-! ===== cells cut out, put in order, named: each list of cells written once ===== -/
theorem fm_map {f : Nat → Option (Nat × va_E)} : ∀ (is : List Nat) (wc : va_W), is.map f = wc.map some → is.filterMap f = wc := by
  intro is
  induction is with
  | nil =>
    intro wc h
    cases wc with
    | nil => rfl
    | cons c wc => exact absurd (congrArg List.length h) (by simp)
  | cons i is ih =>
    intro wc h
    cases wc with
    | nil => exact absurd (congrArg List.length h) (by simp)
    | cons c wc =>
      have h1 : f i :: is.map f = some c :: wc.map some := h
      injection h1 with h2 h3
      rw [List.filterMap_cons, h2]
      show c :: is.filterMap f = c :: wc
      rw [ih wc h3]
noncomputable abbrev pd_2 (D : va_G) (cl : List vw_C) (A : Nat → Prop) (L : va_W) (H : Heap) : Prop := va_P D cl L H ∧ va_D A L
theorem pd_K {D : va_G} {cl : List vw_C} {H : Heap} {A : Nat → Prop} {G : Prop} (L : va_W) (hP : va_P D cl L H) (hD : va_D A L) (k : va_P D cl L H → va_D A L → G) : G := k hP hD
theorem pd_P {D : va_G} {cl : List vw_C} {H : Heap} {A : Nat → Prop} {G : Prop} {X pl : va_W} (hP : va_P D cl (X ++ pl) H) (hD : va_D A (X ++ pl)) (cx : va_W) (is : List Nat) (hn : va_nd is = true) (hs : is.map (fun i => X[i]?) = cx.map some) (k : va_P D cl (cx ++ pl) H → va_D A (cx ++ pl) → G) : G := k (hP.part is hs) (hD.part is hn hs)
theorem pd_S {D : va_G} {cl : List vw_C} {H : Heap} {A : Nat → Prop} {G : Prop} {ws : va_W} (hP : va_P D cl ws H) (hD : va_D A ws) (wc : va_W) (is : List Nat) (hn : va_nd is = true) (hs : is.map (fun i => ws[i]?) = wc.map some) (k : va_P D cl wc H → va_D A wc → G) : G := k (hP.sub is (fm_map is wc hs)) (hD.sub is hn hs)
theorem ct_P {D : va_G} {cl : List vw_C} {H H0 : Heap} {locs : List Loc} {A : Nat → Prop} {G : Prop} {X pl : va_W} (hP : va_P D cl (X ++ pl) H) (hD : va_D A (X ++ pl)) (hS : va_S A H0 H locs) (hA : ∀ q, H0.size ≤ q → A q) (cx : va_W) (is : List Nat) (hn : va_nd is = true) (hs : is.map (fun i => X[i]?) = cx.map some) (k : va_P D cl (cx ++ pl) H → va_D (fun _ => True) (cx ++ pl) → (∀ q, va_A (cx ++ pl) H.size q → A q) → is.map (fun i => X[i]?) = cx.map some → G) : G :=
  k (hP.part is hs) ((hD.part is hn hs).weaken (fun _ _ _ _ => trivial)) (va_freeP hD hS hA is hs) hs
theorem ct_S {D : va_G} {cl : List vw_C} {H H0 : Heap} {locs : List Loc} {A : Nat → Prop} {G : Prop} {ws : va_W} (hP : va_P D cl ws H) (hD : va_D A ws) (hS : va_S A H0 H locs) (hA : ∀ q, H0.size ≤ q → A q) (wc : va_W) (is : List Nat) (hn : va_nd is = true) (hs : is.map (fun i => ws[i]?) = wc.map some) (k : va_P D cl wc H → va_D (fun _ => True) wc → (∀ q, va_A wc H.size q → A q) → is.map (fun i => ws[i]?) = wc.map some → G) : G :=
  k (hP.sub is (fm_map is wc hs)) ((hD.sub is hn hs).weaken (fun _ _ _ _ => trivial)) (va_free hD hS hA is hs) hs
theorem ct_R {D : va_G} {cl : List vw_C} {H : Heap} {A : Nat → Prop} {G : Prop} {ws : va_W} (hP : va_P D cl ws H) (hD : va_D A ws) (wc : va_W) (is : List Nat) (hn : va_nd is = true) (hs : is.map (fun i => ws[i]?) = wc.map some) (k : va_P D cl wc H → va_D (fun _ => True) wc → G) : G :=
  k (hP.sub is (fm_map is wc hs)) ((hD.sub is hn hs).weaken (fun _ _ _ _ => trivial))
end

section
/-- what a LINE of kind k and width w lets, in the reference's numbers; b: from its first end -/
noncomputable def ml_lets (k w b : Int32) : Int32 := if k = 2 then (-5) else if k = 1 ∧ b = 0 then 0 else w
/-- the same with ENDLESS as 1000000; z: the line that is raised -/
noncomputable def ml_room (k w b l z : Int32) : Int32 := if ml_lets k w b = (-5) then 1000000 else if l = z ∧ ¬ (k = 1 ∧ b = 0) then ml_lets k w b + 1 else ml_lets k w b

set_option maxHeartbeats 4000000 in
set_option maxRecDepth 100000 in
theorem c_X12_in (l : Launch) (D : va_G) (cy : Nat → ClassId) (sz : Nat) (v : Int64) (lo : Int64) (hi : Int64) : Met l yX12_in wsX12_in ({ frames := 0, cells := 0, slots := 0, locals := 0 }) (va_Pc [.long v, .long lo, .long hi] (fun U => U.heap.size = sz ∧ va_P D vwCl [] U.heap ∧ kk_ D cy U ∧ va_D (fun _ => True) [])) (va_Qi (fun (r : Int32) (_ : Unit) => ((lo.toInt ≤ v.toInt ∧ v.toInt ≤ hi.toInt) ∧ r = 1) ∨ ((¬ (lo.toInt ≤ v.toInt ∧ v.toInt ≤ hi.toInt)) ∧ r = 0)) (fun (_ : Unit) (_ : State) => True) (va_A [] sz)) 0 0 (va_A [] sz) := by
  refine ofQ (cc := cX12_in) (maxL := 6) (ret := (some .boolean)) (by decide) rfl ?_
  intro p e s m args below meth c s₁ Q hQ B hml hv
  obtain ⟨rfl, hsz, hP, hK, hD0⟩ := hv
  have hx := B.exec
  have hb := B.bytes
  have hr := B.returns
  have hts := atoms_spec (ws := wsX12_in) B.pre
  have hown : s.vm.findClass RX12 = some m.cls := by have h_ := findClass_of_methodNamed B.named; exact h_
  have hlocks := B.notSynchronized
  subst hsz
  have hD : va_D (va_A [] s.heap.size) [] := dd_nil
  generalize hAe : va_A [] s.heap.size = A at hD hQ
  have hA : ∀ q : Nat, s.heap.size ≤ q → A q := fun q h => by rw [← hAe]; exact Or.inr h
  have hS : va_S A s.heap s.heap [] := va_S.rf
  have hl := lv_entry ([.long v, .long lo, .long hi]) (n := 6) (Nat.le_of_ble_eq_true rfl)
  rw [lg_entry_eq]
  generalize (lg_sl ([.long v, .long lo, .long hi]) ++ List.replicate (6 - (lg_sl ([.long v, .long lo, .long hi])).length) Slot.unset).toArray = ls at hl ⊢
  have hl : lv_has ls 6 [(0, .long v), (2, .long lo), (4, .long hi)] := hl
  have z0 : (0 : Int32).toInt = 0 := by decide
  have z1 : (1 : Int32).toInt = 1 := by decide
  refine lv_lload_n hx hb dB_3_0_9.1.1.1 rfl (lv_at hl 0 rfl) ?_
  refine lv_lload_n hx hb dB_3_0_9.1.1.2.1 rfl (lv_at hl 1 rfl) ?_
  refine W.lcmp hx hb dB_3_0_9.1.1.2.2 ?_
  refine lv_if_lt (tgt := 17) hx hb dB_3_0_9.1.2.1 (by decide) (fun c_1 => ?_) (fun c_1 => ?_)
  · have t_1 : v.toInt < lo.toInt := Int64.lt_iff_toInt_lt.mp ((lg_cmp_lt v lo).mp c_1)
    refine lv_iconst (v := 0) hx hb dB_3_0_9.2.2.2.1 (by decide) ?_
    rw [hQ]
    exact W.zret (ty := .boolean) (v := 0) hx hb hr (by decide) (fun t ht hW => ⟨⟨0, (), rfl, Or.inr (⟨by omega, rfl⟩), trivial⟩, hS.F ht⟩) hS.2.2 dB_3_0_9.2.2.2.2
  · have t_1 : ¬ v.toInt < lo.toInt := fun h => c_1 ((lg_cmp_lt v lo).mpr (Int64.lt_iff_toInt_lt.mpr h))
    refine lv_lload_n hx hb dB_3_0_9.1.2.2.1 rfl (lv_at hl 0 rfl) ?_
    refine lv_lload hx hb dB_3_0_9.1.2.2.2 (lv_at hl 2 rfl) ?_
    refine W.lcmp hx hb dB_3_0_9.2.1.1 ?_
    refine lv_if_gt (tgt := 17) hx hb dB_3_0_9.2.1.2.1 (by decide) (fun c_2 => ?_) (fun c_2 => ?_)
    · have t_2 : hi.toInt < v.toInt := Int64.lt_iff_toInt_lt.mp ((lg_cmp_gt v hi).mp c_2)
      refine lv_iconst (v := 0) hx hb dB_3_0_9.2.2.2.1 (by decide) ?_
      rw [hQ]
      exact W.zret (ty := .boolean) (v := 0) hx hb hr (by decide) (fun t ht hW => ⟨⟨0, (), rfl, Or.inr (⟨by omega, rfl⟩), trivial⟩, hS.F ht⟩) hS.2.2 dB_3_0_9.2.2.2.2
    · have t_2 : ¬ hi.toInt < v.toInt := fun h => c_2 ((lg_cmp_gt v hi).mpr (Int64.lt_iff_toInt_lt.mpr h))
      refine lv_iconst (v := 1) hx hb dB_3_0_9.2.1.2.2 (by decide) ?_
      refine lv_goto (tgt := 18) hx hb dB_3_0_9.2.2.1 (by decide) ?_
      rw [hQ]
      exact W.zret (ty := .boolean) (v := 1) hx hb hr (by decide) (fun t ht hW => ⟨⟨1, (), rfl, Or.inl (⟨by omega, rfl⟩), trivial⟩, hS.F ht⟩) hS.2.2 dB_3_0_9.2.2.2.2

set_option maxHeartbeats 4000000 in
set_option maxRecDepth 100000 in
theorem c_X12_isPlace (l : Launch) (D : va_G) (cy : Nat → ClassId) (sz : Nat) (mo : Nat) (g5 : Nat) (g6 : Nat) (g7 : Nat) (g8 : Nat) (g9 : Nat) (g10 : Nat) (g12 : Nat) (g13 : Nat) (g14 : Nat) (g15 : Nat) (g16 : Nat) (g17 : Nat) (g18 : Nat) (g19 : Nat) (g20 : Nat) (g22 : Nat) (g23 : Nat) (g24 : Nat) (g29 : Nat) (g30 : Nat) (g31 : Nat) (g32 : Nat) (g33 : Nat) (s0 : Int32) (s1 : Int32) (s3 : Int32) (s4 : Int32) (s11 : Int32) (s21 : Int32) (s25 : Int32) (s26 : Int32) (s27 : Int32) (s28 : Int32) (t2 : Int64) (a1 : Int32) (hPl : 0 ≤ s3.toInt ∧ s3.toInt ≤ 12) : Met l yX12_isPlace wsX12_isPlace ({ frames := 1, cells := 0, slots := 0, locals := 25 }) (va_Pc [.ref mo, .int a1] (fun U => U.heap.size = sz ∧ va_P D vwCl [ob12_0_ mo s0 s1 t2 s3 s4 g5 g6 g7 g8 g9 g10 s11 g12 g13 g14 g15 g16 g17 g18 g19 g20 s21 g22 g23 g24 s25 s26 s27 s28 g29 g30 g31 g32 g33] U.heap ∧ kk_ D cy U ∧ va_D (fun _ => True) [ob12_0_ mo s0 s1 t2 s3 s4 g5 g6 g7 g8 g9 g10 s11 g12 g13 g14 g15 g16 g17 g18 g19 g20 s21 g22 g23 g24 s25 s26 s27 s28 g29 g30 g31 g32 g33])) (va_Qi (fun (r : Int32) (_ : Unit) => ((0 ≤ a1.toInt ∧ a1.toInt < s3.toInt) ∧ r = 1) ∨ ((¬ (0 ≤ a1.toInt ∧ a1.toInt < s3.toInt)) ∧ r = 0)) (fun (_ : Unit) (_ : State) => True) (va_A [] sz)) 0 0 (va_A [] sz) := by
  refine ofQ (cc := cX12_isPlace) (maxL := 2) (ret := (some .boolean)) (by decide) rfl ?_
  intro p e s m args below meth c s₁ Q hQ B hml hv
  obtain ⟨rfl, hsz, hP, hK, hD0⟩ := hv
  have hx := B.exec
  have hb := B.bytes
  have hr := B.returns
  have hts := atoms_spec (ws := wsX12_isPlace) B.pre
  have hown : s.vm.findClass RX12 = some m.cls := by have h_ := findClass_of_methodNamed B.named; exact h_
  have hlocks := B.notSynchronized
  subst hsz
  have hD : va_D (va_A [] s.heap.size) [] := dd_nil
  generalize hAe : va_A [] s.heap.size = A at hD hQ
  have hA : ∀ q : Nat, s.heap.size ≤ q → A q := fun q h => by rw [← hAe]; exact Or.inr h
  have hS : va_S A s.heap s.heap [] := va_S.rf
  have hl := lv_entry ([.ref mo, .int a1]) (n := 2) (Nat.le_of_ble_eq_true rfl)
  rw [lg_entry_eq]
  generalize (lg_sl ([.ref mo, .int a1]) ++ List.replicate (2 - (lg_sl ([.ref mo, .int a1])).length) Slot.unset).toArray = ls at hl ⊢
  have hl : lv_has ls 2 [(0, .ref mo), (1, .int a1)] := hl
  have z0 : (0 : Int32).toInt = 0 := by decide
  have zl0 : (0 : Int64).toInt = 0 := by decide
  have z1 : (1 : Int32).toInt = 1 := by decide
  refine lv_iload_n hx hb dB_3_0_18.1.1.1 rfl (lv_at hl 1 rfl) ?_
  refine lv_i2l (v := a1.toInt64) hx hb dB_3_0_18.1.1.2 rfl ?_
  have q_1 : (a1.toInt64).toInt = a1.toInt := Int32.toInt_toInt64 a1
  refine lv_lconst (v := 0) hx hb dB_3_0_18.1.2.1 (by decide) ?_
  refine lv_aload_n hx hb dB_3_0_18.1.2.2.1 rfl (lv_at hl 0 rfl) ?_
  refine va_get (ci := 12) (v := .int s3) (C := RX12) (T := TX12) (N := 34) hx hb hts (fun _ h => List.mem_cons_of_mem _ (List.mem_append_right _ h)) hown hK.1 hP 0 rfl rfl 3 (by decide) (hts (.fieldLink RX12 88 "CutAtlasModel" "places" "I") (List.mem_of_getElem? (i := 1) rfl)) (fun _ h9 => h9) rfl dB_3_0_18.1.2.2.2 ?_
  refine lv_iconst (v := 1) hx hb dB_3_0_18.2.1.1 (by decide) ?_
  refine lv_isub hx hb dB_3_0_18.2.1.2 ?_
  refine lv_topi (fun y_1 ey_1 => ?_)
  have ty_1 : y_1.toInt = s3.toInt - (1 : Int32).toInt := by rw [ey_1]; exact subI (by omega) (by omega)
  refine lv_i2l (v := y_1.toInt64) hx hb dB_3_0_18.2.2.1 rfl ?_
  have q_9 : (y_1.toInt64).toInt = y_1.toInt := Int32.toInt_toInt64 y_1
  refine ct_R hP hD0 [] [] (by decide) rfl (fun hPc hDw => ?_)
  have hFc := va_free (wc := []) hD hS hA [] rfl
  refine va_calli (va_runS (As := [.long a1.toInt64, .long 0, .long y_1.toInt64]) (rest := []) ⟨hx, hb, hml, hown, hts⟩ (c_X12_in l D cy s.heap.size a1.toInt64 (0 : Int64) y_1.toInt64) (va_cwS 3 hts gX12_isPlace_X12_in rfl rfl rfl hd_X12_in ⟨Nat.le_of_ble_eq_true rfl, Nat.le_of_ble_eq_true rfl⟩) ⟨bl_, fun U hU hW => ⟨rfl, by rw [hU], by rw [hU]; exact hPc, kk_mv hW hK, hDw⟩⟩ rfl rfl hl.1 rfl (lv_room (Nat.le_of_ble_eq_true rfl)) dB_3_0_18.2.2.2.1 ⟨Nat.le_of_ble_eq_true rfl, Nat.le_of_ble_eq_true rfl⟩) hS (fun q _ h => hFc q h) hFc (fun r_2 u t H locs ht hvm hw hB hz1 hk1 hS => ?_)
  have hP : va_P D vwCl _ H := ro_keep hP hk1
  rcases hw with ⟨w_3, e_⟩ | ⟨w_3, e_⟩
  · have e_ := e_.symm
    subst e_
    rw [hQ]
    exact W.zret (ty := .boolean) (v := 1) hx hb hr (by decide) (fun t ht hW => ⟨⟨1, (), rfl, Or.inl (⟨by omega, rfl⟩), trivial⟩, hS.F ht⟩) hS.2.2 dB_3_0_18.2.2.2.2
  · have e_ := e_.symm
    subst e_
    rw [hQ]
    exact W.zret (ty := .boolean) (v := 0) hx hb hr (by decide) (fun t ht hW => ⟨⟨0, (), rfl, Or.inr (⟨by omega, rfl⟩), trivial⟩, hS.F ht⟩) hS.2.2 dB_3_0_18.2.2.2.2

set_option maxHeartbeats 4000000 in
set_option maxRecDepth 100000 in
theorem c_X12_isLine (l : Launch) (D : va_G) (cy : Nat → ClassId) (sz : Nat) (mo : Nat) (g5 : Nat) (g6 : Nat) (g7 : Nat) (g8 : Nat) (g9 : Nat) (g10 : Nat) (g12 : Nat) (g13 : Nat) (g14 : Nat) (g15 : Nat) (g16 : Nat) (g17 : Nat) (g18 : Nat) (g19 : Nat) (g20 : Nat) (g22 : Nat) (g23 : Nat) (g24 : Nat) (g29 : Nat) (g30 : Nat) (g31 : Nat) (g32 : Nat) (g33 : Nat) (s0 : Int32) (s1 : Int32) (s3 : Int32) (s4 : Int32) (s11 : Int32) (s21 : Int32) (s25 : Int32) (s26 : Int32) (s27 : Int32) (s28 : Int32) (t2 : Int64) (a1 : Int32) (hN : 0 ≤ s4.toInt ∧ s4.toInt ≤ 40) : Met l yX12_isLine wsX12_isLine ({ frames := 1, cells := 0, slots := 0, locals := 25 }) (va_Pc [.ref mo, .int a1] (fun U => U.heap.size = sz ∧ va_P D vwCl [ob12_0_ mo s0 s1 t2 s3 s4 g5 g6 g7 g8 g9 g10 s11 g12 g13 g14 g15 g16 g17 g18 g19 g20 s21 g22 g23 g24 s25 s26 s27 s28 g29 g30 g31 g32 g33] U.heap ∧ kk_ D cy U ∧ va_D (fun _ => True) [ob12_0_ mo s0 s1 t2 s3 s4 g5 g6 g7 g8 g9 g10 s11 g12 g13 g14 g15 g16 g17 g18 g19 g20 s21 g22 g23 g24 s25 s26 s27 s28 g29 g30 g31 g32 g33])) (va_Qi (fun (r : Int32) (_ : Unit) => ((0 ≤ a1.toInt ∧ a1.toInt < s4.toInt) ∧ r = 1) ∨ ((¬ (0 ≤ a1.toInt ∧ a1.toInt < s4.toInt)) ∧ r = 0)) (fun (_ : Unit) (_ : State) => True) (va_A [] sz)) 0 0 (va_A [] sz) := by
  refine ofQ (cc := cX12_isLine) (maxL := 2) (ret := (some .boolean)) (by decide) rfl ?_
  intro p e s m args below meth c s₁ Q hQ B hml hv
  obtain ⟨rfl, hsz, hP, hK, hD0⟩ := hv
  have hx := B.exec
  have hb := B.bytes
  have hr := B.returns
  have hts := atoms_spec (ws := wsX12_isLine) B.pre
  have hown : s.vm.findClass RX12 = some m.cls := by have h_ := findClass_of_methodNamed B.named; exact h_
  have hlocks := B.notSynchronized
  subst hsz
  have hD : va_D (va_A [] s.heap.size) [] := dd_nil
  generalize hAe : va_A [] s.heap.size = A at hD hQ
  have hA : ∀ q : Nat, s.heap.size ≤ q → A q := fun q h => by rw [← hAe]; exact Or.inr h
  have hS : va_S A s.heap s.heap [] := va_S.rf
  have hl := lv_entry ([.ref mo, .int a1]) (n := 2) (Nat.le_of_ble_eq_true rfl)
  rw [lg_entry_eq]
  generalize (lg_sl ([.ref mo, .int a1]) ++ List.replicate (2 - (lg_sl ([.ref mo, .int a1])).length) Slot.unset).toArray = ls at hl ⊢
  have hl : lv_has ls 2 [(0, .ref mo), (1, .int a1)] := hl
  have z0 : (0 : Int32).toInt = 0 := by decide
  have zl0 : (0 : Int64).toInt = 0 := by decide
  have z1 : (1 : Int32).toInt = 1 := by decide
  refine lv_iload_n hx hb dB_3_0_17.1.1.1 rfl (lv_at hl 1 rfl) ?_
  refine lv_i2l (v := a1.toInt64) hx hb dB_3_0_17.1.1.2 rfl ?_
  have q_1 : (a1.toInt64).toInt = a1.toInt := Int32.toInt_toInt64 a1
  refine lv_lconst (v := 0) hx hb dB_3_0_17.1.2.1 (by decide) ?_
  refine lv_aload_n hx hb dB_3_0_17.1.2.2.1 rfl (lv_at hl 0 rfl) ?_
  refine va_get (ci := 12) (v := .int s4) (C := RX12) (T := TX12) (N := 34) hx hb hts (fun _ h => List.mem_cons_of_mem _ (List.mem_append_right _ h)) hown hK.1 hP 0 rfl rfl 4 (by decide) (hts (.fieldLink RX12 95 "CutAtlasModel" "lines" "I") (List.mem_of_getElem? (i := 1) rfl)) (fun _ h9 => h9) rfl dB_3_0_17.1.2.2.2 ?_
  refine lv_iconst (v := 1) hx hb dB_3_0_17.2.1.1 (by decide) ?_
  refine lv_isub hx hb dB_3_0_17.2.1.2 ?_
  refine lv_topi (fun y_1 ey_1 => ?_)
  have ty_1 : y_1.toInt = s4.toInt - (1 : Int32).toInt := by rw [ey_1]; exact subI (by omega) (by omega)
  refine lv_i2l (v := y_1.toInt64) hx hb dB_3_0_17.2.2.1 rfl ?_
  have q_9 : (y_1.toInt64).toInt = y_1.toInt := Int32.toInt_toInt64 y_1
  refine ct_R hP hD0 [] [] (by decide) rfl (fun hPc hDw => ?_)
  have hFc := va_free (wc := []) hD hS hA [] rfl
  refine va_calli (va_runS (As := [.long a1.toInt64, .long 0, .long y_1.toInt64]) (rest := []) ⟨hx, hb, hml, hown, hts⟩ (c_X12_in l D cy s.heap.size a1.toInt64 (0 : Int64) y_1.toInt64) (va_cwS 3 hts gX12_isLine_X12_in rfl rfl rfl hd_X12_in ⟨Nat.le_of_ble_eq_true rfl, Nat.le_of_ble_eq_true rfl⟩) ⟨bl_, fun U hU hW => ⟨rfl, by rw [hU], by rw [hU]; exact hPc, kk_mv hW hK, hDw⟩⟩ rfl rfl hl.1 rfl (lv_room (Nat.le_of_ble_eq_true rfl)) dB_3_0_17.2.2.2.1 ⟨Nat.le_of_ble_eq_true rfl, Nat.le_of_ble_eq_true rfl⟩) hS (fun q _ h => hFc q h) hFc (fun r_2 u t H locs ht hvm hw hB hz1 hk1 hS => ?_)
  have hP : va_P D vwCl _ H := ro_keep hP hk1
  rcases hw with ⟨w_3, e_⟩ | ⟨w_3, e_⟩
  · have e_ := e_.symm
    subst e_
    rw [hQ]
    exact W.zret (ty := .boolean) (v := 1) hx hb hr (by decide) (fun t ht hW => ⟨⟨1, (), rfl, Or.inl (⟨by omega, rfl⟩), trivial⟩, hS.F ht⟩) hS.2.2 dB_3_0_17.2.2.2.2
  · have e_ := e_.symm
    subst e_
    rw [hQ]
    exact W.zret (ty := .boolean) (v := 0) hx hb hr (by decide) (fun t ht hW => ⟨⟨0, (), rfl, Or.inr (⟨by omega, rfl⟩), trivial⟩, hS.F ht⟩) hS.2.2 dB_3_0_17.2.2.2.2

set_option maxHeartbeats 4000000 in
set_option maxRecDepth 100000 in
theorem c_X12_arePlaces (l : Launch) (D : va_G) (cy : Nat → ClassId) (sz : Nat) (mo : Nat) (g5 : Nat) (g6 : Nat) (g7 : Nat) (g8 : Nat) (g9 : Nat) (g10 : Nat) (g12 : Nat) (g13 : Nat) (g14 : Nat) (g15 : Nat) (g16 : Nat) (g17 : Nat) (g18 : Nat) (g19 : Nat) (g20 : Nat) (g22 : Nat) (g23 : Nat) (g24 : Nat) (g29 : Nat) (g30 : Nat) (g31 : Nat) (g32 : Nat) (g33 : Nat) (s0 : Int32) (s1 : Int32) (s3 : Int32) (s4 : Int32) (s11 : Int32) (s21 : Int32) (s25 : Int32) (s26 : Int32) (s27 : Int32) (s28 : Int32) (t2 : Int64) (a1 : Int32) (a2 : Int32) (hPl : 0 ≤ s3.toInt ∧ s3.toInt ≤ 12) : Met l yX12_arePlaces wsX12_arePlaces ({ frames := 2, cells := 0, slots := 0, locals := 46 }) (va_Pc [.ref mo, .int a1, .int a2] (fun U => U.heap.size = sz ∧ va_P D vwCl [ob12_0_ mo s0 s1 t2 s3 s4 g5 g6 g7 g8 g9 g10 s11 g12 g13 g14 g15 g16 g17 g18 g19 g20 s21 g22 g23 g24 s25 s26 s27 s28 g29 g30 g31 g32 g33] U.heap ∧ kk_ D cy U ∧ va_D (fun _ => True) [ob12_0_ mo s0 s1 t2 s3 s4 g5 g6 g7 g8 g9 g10 s11 g12 g13 g14 g15 g16 g17 g18 g19 g20 s21 g22 g23 g24 s25 s26 s27 s28 g29 g30 g31 g32 g33])) (va_Qi (fun (r : Int32) (_ : Unit) => (((0 ≤ a1.toInt ∧ a1.toInt < s3.toInt) ∧ (0 ≤ a2.toInt ∧ a2.toInt < s3.toInt) ∧ a1.toInt ≠ a2.toInt) ∧ r = 1) ∨ ((¬ ((0 ≤ a1.toInt ∧ a1.toInt < s3.toInt) ∧ (0 ≤ a2.toInt ∧ a2.toInt < s3.toInt) ∧ a1.toInt ≠ a2.toInt)) ∧ r = 0)) (fun (_ : Unit) (_ : State) => True) (va_A [] sz)) 0 0 (va_A [] sz) := by
  refine ofQ (cc := cX12_arePlaces) (maxL := 3) (ret := (some .boolean)) (by decide) rfl ?_
  intro p e s m args below meth c s₁ Q hQ B hml hv
  obtain ⟨rfl, hsz, hP, hK, hD0⟩ := hv
  have hx := B.exec
  have hb := B.bytes
  have hr := B.returns
  have hts := atoms_spec (ws := wsX12_arePlaces) B.pre
  have hown : s.vm.findClass RX12 = some m.cls := by have h_ := findClass_of_methodNamed B.named; exact h_
  have hlocks := B.notSynchronized
  subst hsz
  have hD : va_D (va_A [] s.heap.size) [] := dd_nil
  generalize hAe : va_A [] s.heap.size = A at hD hQ
  have hA : ∀ q : Nat, s.heap.size ≤ q → A q := fun q h => by rw [← hAe]; exact Or.inr h
  have hS : va_S A s.heap s.heap [] := va_S.rf
  have hl := lv_entry ([.ref mo, .int a1, .int a2]) (n := 3) (Nat.le_of_ble_eq_true rfl)
  rw [lg_entry_eq]
  generalize (lg_sl ([.ref mo, .int a1, .int a2]) ++ List.replicate (3 - (lg_sl ([.ref mo, .int a1, .int a2])).length) Slot.unset).toArray = ls at hl ⊢
  have hl : lv_has ls 3 [(0, .ref mo), (1, .int a1), (2, .int a2)] := hl
  have z0 : (0 : Int32).toInt = 0 := by decide
  have z1 : (1 : Int32).toInt = 1 := by decide
  refine lv_aload_n hx hb dB_3_0_4.1.1.1 rfl (lv_at hl 0 rfl) ?_
  refine lv_iload_n hx hb dB_3_0_4.1.1.2.1 rfl (lv_at hl 1 rfl) ?_
  refine ct_R hP hD0 [ob12_0_ mo s0 s1 t2 s3 s4 g5 g6 g7 g8 g9 g10 s11 g12 g13 g14 g15 g16 g17 g18 g19 g20 s21 g22 g23 g24 s25 s26 s27 s28 g29 g30 g31 g32 g33] [0] (by decide) rfl (fun hPc hDw => ?_)
  have hFc := va_free (wc := []) hD hS hA [] rfl
  refine va_calli (va_runV (As := [.int a1]) (rest := []) ⟨hx, hb, hml, hown, hts⟩ (c_X12_isPlace l D cy s.heap.size mo g5 g6 g7 g8 g9 g10 g12 g13 g14 g15 g16 g17 g18 g19 g20 g22 g23 g24 g29 g30 g31 g32 g33 s0 s1 s3 s4 s11 s21 s25 s26 s27 s28 t2 a1 (by first | with_reducible assumption | omega | assumption)) (cwV 1 hts gX12_arePlaces_X12_isPlace rfl rfl rfl ⟨rfl, hd_X12_isPlace⟩ ⟨Nat.le_of_ble_eq_true rfl, Nat.le_of_ble_eq_true rfl⟩) ⟨bl_, va_recvX hK.1 hP (ci := 12) (q0 := 0) rfl rfl, fun U hU hW => ⟨rfl, by rw [hU], by rw [hU]; exact hPc, kk_mv hW hK, hDw⟩⟩ rfl rfl hl.1 rfl (lv_room (Nat.le_of_ble_eq_true rfl)) dB_3_0_4.1.1.2.2 ⟨Nat.le_of_ble_eq_true rfl, Nat.le_of_ble_eq_true rfl⟩) hS (fun q _ h => hFc q h) hFc (fun r_1 u t H locs ht hvm hw hB hz1 hk1 hS => ?_)
  have hP : va_P D vwCl _ H := ro_keep hP hk1
  rcases hw with ⟨w_2, e_⟩ | ⟨w_2, e_⟩
  · have e_ := e_.symm
    subst e_
    refine lv_if_eq (tgt := 25) hx hb dB_3_0_4.1.2.1.1 (by decide) (fun c_3 => ?_) (fun c_3 => ?_)
    · exact absurd c_3 (by decide)
    · have _ := c_3
      refine lv_aload_n hx hb dB_3_0_4.1.2.1.2 rfl (lv_at hl 0 rfl) ?_
      refine lv_iload_n hx hb dB_3_0_4.1.2.2.1 rfl (lv_at hl 2 rfl) ?_
      refine ct_R hP hD0 [ob12_0_ mo s0 s1 t2 s3 s4 g5 g6 g7 g8 g9 g10 s11 g12 g13 g14 g15 g16 g17 g18 g19 g20 s21 g22 g23 g24 s25 s26 s27 s28 g29 g30 g31 g32 g33] [0] (by decide) rfl (fun hPc hDw => ?_)
      have hFc := va_free (wc := []) hD hS hA [] rfl
      refine va_calli (va_runV (As := [.int a2]) (rest := []) ⟨hx, hb, hml, hown, hts⟩ (c_X12_isPlace l D cy H.size mo g5 g6 g7 g8 g9 g10 g12 g13 g14 g15 g16 g17 g18 g19 g20 g22 g23 g24 g29 g30 g31 g32 g33 s0 s1 s3 s4 s11 s21 s25 s26 s27 s28 t2 a2 (by first | with_reducible assumption | omega | assumption)) (cwV 1 hts gX12_arePlaces_X12_isPlace rfl rfl rfl ⟨rfl, hd_X12_isPlace⟩ ⟨Nat.le_of_ble_eq_true rfl, Nat.le_of_ble_eq_true rfl⟩) ⟨bl_, va_recvX hK.1 hP (ci := 12) (q0 := 0) rfl rfl, fun U hU hW => ⟨rfl, by rw [hU], by rw [hU]; exact hPc, kk_mv hW hK, hDw⟩⟩ rfl rfl hl.1 rfl (lv_room (Nat.le_of_ble_eq_true rfl)) dB_3_0_4.1.2.2.2 ⟨Nat.le_of_ble_eq_true rfl, Nat.le_of_ble_eq_true rfl⟩) hS (fun q _ h => hFc q h) hFc (fun r_4 u t H locs ht hvm hw hB hz1 hk1 hS => ?_)
      have hP : va_P D vwCl _ H := ro_keep hP hk1
      rcases hw with ⟨w_5, e_⟩ | ⟨w_5, e_⟩
      · have e_ := e_.symm
        subst e_
        refine lv_if_eq (tgt := 25) hx hb dB_3_0_4.2.1.1.1 (by decide) (fun c_6 => ?_) (fun c_6 => ?_)
        · exact absurd c_6 (by decide)
        · have _ := c_6
          refine lv_iload_n hx hb dB_3_0_4.2.1.1.2 rfl (lv_at hl 1 rfl) ?_
          refine lv_iload_n hx hb dB_3_0_4.2.1.2.1 rfl (lv_at hl 2 rfl) ?_
          refine lv_icmp_eq (tgt := 25) hx hb dB_3_0_4.2.1.2.2 (by decide) (fun c_7 => ?_) (fun c_7 => ?_)
          · have t_7 : a1.toInt = a2.toInt := congrArg Int32.toInt c_7
            refine lv_iconst (v := 0) hx hb dB_3_0_4.2.2.2.1 (by decide) ?_
            rw [hQ]
            exact W.zret (ty := .boolean) (v := 0) hx hb hr (by decide) (fun t ht hW => ⟨⟨0, (), rfl, Or.inr (⟨by omega, rfl⟩), trivial⟩, hS.F ht⟩) hS.2.2 dB_3_0_4.2.2.2.2
          · have t_7 : ¬ a1.toInt = a2.toInt := fun h => c_7 (Int32.toInt_inj.mp h)
            refine lv_iconst (v := 1) hx hb dB_3_0_4.2.2.1.1 (by decide) ?_
            refine lv_goto (tgt := 26) hx hb dB_3_0_4.2.2.1.2 (by decide) ?_
            rw [hQ]
            exact W.zret (ty := .boolean) (v := 1) hx hb hr (by decide) (fun t ht hW => ⟨⟨1, (), rfl, Or.inl (⟨by omega, rfl⟩), trivial⟩, hS.F ht⟩) hS.2.2 dB_3_0_4.2.2.2.2
      · have e_ := e_.symm
        subst e_
        refine lv_if_eq (tgt := 25) hx hb dB_3_0_4.2.1.1.1 (by decide) (fun c_8 => ?_) (fun c_8 => ?_)
        · have _ := c_8
          refine lv_iconst (v := 0) hx hb dB_3_0_4.2.2.2.1 (by decide) ?_
          rw [hQ]
          exact W.zret (ty := .boolean) (v := 0) hx hb hr (by decide) (fun t ht hW => ⟨⟨0, (), rfl, Or.inr (⟨by omega, rfl⟩), trivial⟩, hS.F ht⟩) hS.2.2 dB_3_0_4.2.2.2.2
        · exact absurd c_8 (by decide)
  · have e_ := e_.symm
    subst e_
    refine lv_if_eq (tgt := 25) hx hb dB_3_0_4.1.2.1.1 (by decide) (fun c_9 => ?_) (fun c_9 => ?_)
    · have _ := c_9
      refine lv_iconst (v := 0) hx hb dB_3_0_4.2.2.2.1 (by decide) ?_
      rw [hQ]
      exact W.zret (ty := .boolean) (v := 0) hx hb hr (by decide) (fun t ht hW => ⟨⟨0, (), rfl, Or.inr (⟨by omega, rfl⟩), trivial⟩, hS.F ht⟩) hS.2.2 dB_3_0_4.2.2.2.2
    · exact absurd c_9 (by decide)

set_option maxHeartbeats 4000000 in
set_option maxRecDepth 100000 in
theorem c_X12_lets (l : Launch) (D : va_G) (cy : Nat → ClassId) (sz : Nat) (mo : Nat) (g5 : Nat) (g6 : Nat) (g7 : Nat) (g8 : Nat) (g9 : Nat) (g10 : Nat) (g12 : Nat) (g13 : Nat) (g14 : Nat) (g15 : Nat) (g16 : Nat) (g17 : Nat) (g18 : Nat) (g19 : Nat) (g20 : Nat) (g22 : Nat) (g23 : Nat) (g24 : Nat) (g29 : Nat) (g30 : Nat) (g31 : Nat) (g32 : Nat) (g33 : Nat) (s0 : Int32) (s1 : Int32) (s3 : Int32) (s4 : Int32) (s11 : Int32) (s21 : Int32) (s25 : Int32) (s26 : Int32) (s27 : Int32) (s28 : Int32) (t2 : Int64) (f5 : Nat → Int32) (f8 : Nat → Int32) (a1 : Int32) (a2 : Int32) (q1 : 0 ≤ a1.toInt ∧ a1.toInt < 40) : Met l yX12_lets wsX12_lets ({ frames := 0, cells := 0, slots := 0, locals := 0 }) (va_Pc [.ref mo, .int a1, .int a2] (fun U => U.heap.size = sz ∧ va_P D vwCl [ob12_0_ mo s0 s1 t2 s3 s4 g5 g6 g7 g8 g9 g10 s11 g12 g13 g14 g15 g16 g17 g18 g19 g20 s21 g22 g23 g24 s25 s26 s27 s28 g29 g30 g31 g32 g33, ai_ cy g5 40 f5, ai_ cy g8 40 f8] U.heap ∧ kk_ D cy U ∧ va_D (fun _ => True) [ob12_0_ mo s0 s1 t2 s3 s4 g5 g6 g7 g8 g9 g10 s11 g12 g13 g14 g15 g16 g17 g18 g19 g20 s21 g22 g23 g24 s25 s26 s27 s28 g29 g30 g31 g32 g33, ai_ cy g5 40 f5, ai_ cy g8 40 f8])) (va_Qi (fun (r : Int32) (_ : Unit) => (r = ml_lets (f5 a1.toNatClampNeg) (f8 a1.toNatClampNeg) a2)) (fun (_ : Unit) (_ : State) => True) (va_A [] sz)) 0 0 (va_A [] sz) := by
  refine ofQ (cc := cX12_lets) (maxL := 3) (ret := (some .int)) (by decide) rfl ?_
  intro p e s m args below meth c s₁ Q hQ B hml hv
  obtain ⟨rfl, hsz, hP, hK, hD0⟩ := hv
  have hx := B.exec
  have hb := B.bytes
  have hr := B.returns
  have hts := atoms_spec (ws := wsX12_lets) B.pre
  have hown : s.vm.findClass RX12 = some m.cls := by have h_ := findClass_of_methodNamed B.named; exact h_
  have hlocks := B.notSynchronized
  subst hsz
  have hD : va_D (va_A [] s.heap.size) [] := dd_nil
  generalize hAe : va_A [] s.heap.size = A at hD hQ
  have hA : ∀ q : Nat, s.heap.size ≤ q → A q := fun q h => by rw [← hAe]; exact Or.inr h
  have hS : va_S A s.heap s.heap [] := va_S.rf
  have hl := lv_entry ([.ref mo, .int a1, .int a2]) (n := 3) (Nat.le_of_ble_eq_true rfl)
  rw [lg_entry_eq]
  generalize (lg_sl ([.ref mo, .int a1, .int a2]) ++ List.replicate (3 - (lg_sl ([.ref mo, .int a1, .int a2])).length) Slot.unset).toArray = ls at hl ⊢
  have hl : lv_has ls 3 [(0, .ref mo), (1, .int a1), (2, .int a2)] := hl
  have zm5 : ((-5) : Int32).toInt = -5 := by decide
  have z0 : (0 : Int32).toInt = 0 := by decide
  have z1 : (1 : Int32).toInt = 1 := by decide
  have z2 : (2 : Int32).toInt = 2 := by decide
  refine lv_aload_n hx hb dB_3_1_43.1.1.1.1 rfl (lv_at hl 0 rfl) ?_
  refine va_get (ci := 12) (v := .ref g5) (C := RX12) (T := TX12) (N := 34) hx hb hts (fun _ h => List.mem_cons_of_mem _ (List.mem_append_right _ h)) hown hK.1 hP 0 rfl rfl 5 (by decide) (hts (.fieldLink RX12 7 "CutAtlasModel" "kind" "[I") (List.mem_of_getElem? (i := 1) rfl)) (fun _ h9 => h9) rfl dB_3_1_43.1.1.1.2 ?_
  refine lv_iload_n hx hb dB_3_1_43.1.1.2.1 rfl (lv_at hl 1 rfl) ?_
  have h_1 : vp_in a1 40 := in_I (by first | with_reducible assumption | omega) (by omega)
  refine va_iald hx hb hK.1 hP 1 0 rfl rfl (i := a1) h_1 dB_3_1_43.1.1.2.2 ?_
  refine lv_topi (fun y_2 ey_2 => ?_)
  refine lv_iconst (v := 2) hx hb dB_3_1_43.1.2.1.1 (by decide) ?_
  refine lv_icmp_ne (tgt := 15) hx hb dB_3_1_43.1.2.1.2 (by decide) (fun c_3 => ?_) (fun c_3 => ?_)
  · have t_3 : ¬ y_2.toInt = (2 : Int32).toInt := fun h => c_3 (Int32.toInt_inj.mp h)
    refine lv_aload_n hx hb dB_3_1_43.2.1.1.1 rfl (lv_at hl 0 rfl) ?_
    refine va_get (ci := 12) (v := .ref g5) (C := RX12) (T := TX12) (N := 34) hx hb hts (fun _ h => List.mem_cons_of_mem _ (List.mem_append_right _ h)) hown hK.1 hP 0 rfl rfl 5 (by decide) (hts (.fieldLink RX12 7 "CutAtlasModel" "kind" "[I") (List.mem_of_getElem? (i := 1) rfl)) (fun _ h9 => h9) rfl dB_3_1_43.2.1.1.2 ?_
    refine lv_iload_n hx hb dB_3_1_43.2.1.2.1 rfl (lv_at hl 1 rfl) ?_
    refine va_iald hx hb hK.1 hP 1 0 rfl rfl (i := a1) h_1 dB_3_1_43.2.1.2.2 ?_
    refine lv_topi (fun y_5 ey_5 => ?_)
    have e_ := (ey_5.trans ey_2.symm).symm
    subst e_
    skip
    refine lv_iconst (v := 1) hx hb dB_3_1_43.2.2.1.1 (by decide) ?_
    refine lv_icmp_ne (tgt := 33) hx hb dB_3_1_43.2.2.1.2 (by decide) (fun c_6 => ?_) (fun c_6 => ?_)
    · have t_6 : ¬ y_2.toInt = (1 : Int32).toInt := fun h => c_6 (Int32.toInt_inj.mp h)
      refine lv_aload_n hx hb dB_3_1_44.1.2.2 rfl (lv_at hl 0 rfl) ?_
      refine va_get (ci := 12) (v := .ref g8) (C := RX12) (T := TX12) (N := 34) hx hb hts (fun _ h => List.mem_cons_of_mem _ (List.mem_append_right _ h)) hown hK.1 hP 0 rfl rfl 8 (by decide) (hts (.fieldLink RX12 19 "CutAtlasModel" "width" "[I") (List.mem_of_getElem? (i := 2) rfl)) (fun _ h9 => h9) rfl dB_3_1_44.2.1.1 ?_
      refine lv_iload_n hx hb dB_3_1_44.2.1.2 rfl (lv_at hl 1 rfl) ?_
      refine va_iald hx hb hK.1 hP 2 0 rfl rfl (i := a1) h_1 dB_3_1_44.2.2.1 ?_
      refine lv_topi (fun y_8 ey_8 => ?_)
      rw [hQ]
      exact W.iret (v := y_8) hx hb hr (fun t ht hW => ⟨⟨y_8, (), rfl, (by first | (simp only [ml_lets]; try simp only [← ey_2]; try simp only [← ey_8]; simp [c_3, c_6]; done) | (simp only [ml_lets]; try simp only [← ey_2]; try simp only [← ey_8]; done) | (exfalso; omega)), trivial⟩, hS.F ht⟩) hS.2.2 dB_3_1_44.2.2.2
    · have t_6 : y_2.toInt = (1 : Int32).toInt := congrArg Int32.toInt c_6
      refine lv_iload_n hx hb dB_3_1_43.2.2.2.1 rfl (lv_at hl 2 rfl) ?_
      refine lv_if_ne (tgt := 33) hx hb dB_3_1_43.2.2.2.2 (by decide) (fun c_9 => ?_) (fun c_9 => ?_)
      · have t_9 : ¬ a2.toInt = (0 : Int32).toInt := fun h => c_9 (Int32.toInt_inj.mp h)
        refine lv_aload_n hx hb dB_3_1_44.1.2.2 rfl (lv_at hl 0 rfl) ?_
        refine va_get (ci := 12) (v := .ref g8) (C := RX12) (T := TX12) (N := 34) hx hb hts (fun _ h => List.mem_cons_of_mem _ (List.mem_append_right _ h)) hown hK.1 hP 0 rfl rfl 8 (by decide) (hts (.fieldLink RX12 19 "CutAtlasModel" "width" "[I") (List.mem_of_getElem? (i := 2) rfl)) (fun _ h9 => h9) rfl dB_3_1_44.2.1.1 ?_
        refine lv_iload_n hx hb dB_3_1_44.2.1.2 rfl (lv_at hl 1 rfl) ?_
        refine va_iald hx hb hK.1 hP 2 0 rfl rfl (i := a1) h_1 dB_3_1_44.2.2.1 ?_
        refine lv_topi (fun y_11 ey_11 => ?_)
        rw [hQ]
        exact W.iret (v := y_11) hx hb hr (fun t ht hW => ⟨⟨y_11, (), rfl, (by first | (simp only [ml_lets]; try simp only [← ey_2]; try simp only [← ey_11]; simp [c_3, c_6, c_9]; done) | (simp only [ml_lets]; try simp only [← ey_2]; try simp only [← ey_11]; done) | (exfalso; omega)), trivial⟩, hS.F ht⟩) hS.2.2 dB_3_1_44.2.2.2
      · have t_9 : a2.toInt = (0 : Int32).toInt := congrArg Int32.toInt c_9
        refine lv_iconst (v := 0) hx hb dB_3_1_44.1.1 (by decide) ?_
        refine lv_goto (tgt := 39) hx hb dB_3_1_44.1.2.1 (by decide) ?_
        rw [hQ]
        exact W.iret (v := 0) hx hb hr (fun t ht hW => ⟨⟨0, (), rfl, (by first | (simp only [ml_lets]; try simp only [← ey_2]; simp [c_3, c_6, c_9]; done) | (simp only [ml_lets]; try simp only [← ey_2]; done) | (exfalso; omega)), trivial⟩, hS.F ht⟩) hS.2.2 dB_3_1_44.2.2.2
  · have t_3 : y_2.toInt = (2 : Int32).toInt := congrArg Int32.toInt c_3
    refine lv_bipush (v := (-5)) hx hb dB_3_1_43.1.2.2.1 (by decide) ?_
    refine lv_goto (tgt := 39) hx hb dB_3_1_43.1.2.2.2 (by decide) ?_
    rw [hQ]
    exact W.iret (v := (-5)) hx hb hr (fun t ht hW => ⟨⟨(-5), (), rfl, (by first | (simp only [ml_lets]; try simp only [← ey_2]; simp [c_3]; done) | (simp only [ml_lets]; try simp only [← ey_2]; done) | (exfalso; omega)), trivial⟩, hS.F ht⟩) hS.2.2 dB_3_1_44.2.2.2

set_option maxHeartbeats 4000000 in
set_option maxRecDepth 100000 in
theorem c_X12_room (l : Launch) (D : va_G) (cy : Nat → ClassId) (sz : Nat) (mo : Nat) (g5 : Nat) (g6 : Nat) (g7 : Nat) (g8 : Nat) (g9 : Nat) (g10 : Nat) (g12 : Nat) (g13 : Nat) (g14 : Nat) (g15 : Nat) (g16 : Nat) (g17 : Nat) (g18 : Nat) (g19 : Nat) (g20 : Nat) (g22 : Nat) (g23 : Nat) (g24 : Nat) (g29 : Nat) (g30 : Nat) (g31 : Nat) (g32 : Nat) (g33 : Nat) (s0 : Int32) (s1 : Int32) (s3 : Int32) (s4 : Int32) (s11 : Int32) (s21 : Int32) (s25 : Int32) (s26 : Int32) (s27 : Int32) (s28 : Int32) (t2 : Int64) (f5 : Nat → Int32) (f8 : Nat → Int32) (a1 : Int32) (a2 : Int32) (q1 : 0 ≤ a1.toInt ∧ a1.toInt < 40) : Met l yX12_room wsX12_room ({ frames := 1, cells := 0, slots := 0, locals := 22 }) (va_Pc [.ref mo, .int a1, .int a2] (fun U => U.heap.size = sz ∧ va_P D vwCl [ob12_0_ mo s0 s1 t2 s3 s4 g5 g6 g7 g8 g9 g10 s11 g12 g13 g14 g15 g16 g17 g18 g19 g20 s21 g22 g23 g24 s25 s26 s27 s28 g29 g30 g31 g32 g33, ai_ cy g5 40 f5, ai_ cy g8 40 f8] U.heap ∧ kk_ D cy U ∧ va_D (fun _ => True) [ob12_0_ mo s0 s1 t2 s3 s4 g5 g6 g7 g8 g9 g10 s11 g12 g13 g14 g15 g16 g17 g18 g19 g20 s21 g22 g23 g24 s25 s26 s27 s28 g29 g30 g31 g32 g33, ai_ cy g5 40 f5, ai_ cy g8 40 f8])) (va_Qi (fun (r : Int32) (_ : Unit) => (r = ml_room (f5 a1.toNatClampNeg) (f8 a1.toNatClampNeg) a2 a1 s21)) (fun (_ : Unit) (_ : State) => True) (va_A [] sz)) 0 0 (va_A [] sz) := by
  refine ofQ (cc := cX12_room) (maxL := 5) (ret := (some .int)) (by decide) rfl ?_
  intro p e s m args below meth c s₁ Q hQ B hml hv
  obtain ⟨rfl, hsz, hP, hK, hD0⟩ := hv
  have hx := B.exec
  have hb := B.bytes
  have hr := B.returns
  have hts := atoms_spec (ws := wsX12_room) B.pre
  have hown : s.vm.findClass RX12 = some m.cls := by have h_ := findClass_of_methodNamed B.named; exact h_
  have hlocks := B.notSynchronized
  subst hsz
  have hD : va_D (va_A [] s.heap.size) [] := dd_nil
  generalize hAe : va_A [] s.heap.size = A at hD hQ
  have hA : ∀ q : Nat, s.heap.size ≤ q → A q := fun q h => by rw [← hAe]; exact Or.inr h
  have hS : va_S A s.heap s.heap [] := va_S.rf
  have hl := lv_entry ([.ref mo, .int a1, .int a2]) (n := 5) (Nat.le_of_ble_eq_true rfl)
  rw [lg_entry_eq]
  generalize (lg_sl ([.ref mo, .int a1, .int a2]) ++ List.replicate (5 - (lg_sl ([.ref mo, .int a1, .int a2])).length) Slot.unset).toArray = ls at hl ⊢
  have hl : lv_has ls 5 [(0, .ref mo), (1, .int a1), (2, .int a2)] := hl
  have zm5 : ((-5) : Int32).toInt = -5 := by decide
  have z0 : (0 : Int32).toInt = 0 := by decide
  have z1 : (1 : Int32).toInt = 1 := by decide
  have z1000000 : (1000000 : Int32).toInt = 1000000 := by decide
  refine lv_aload_n hx hb dB_3_1_54.1.1.1.1 rfl (lv_at hl 0 rfl) ?_
  refine lv_iload_n hx hb dB_3_1_54.1.1.1.2 rfl (lv_at hl 1 rfl) ?_
  refine lv_iload_n hx hb dB_3_1_54.1.1.2.1 rfl (lv_at hl 2 rfl) ?_
  refine ct_R hP hD0 [ob12_0_ mo s0 s1 t2 s3 s4 g5 g6 g7 g8 g9 g10 s11 g12 g13 g14 g15 g16 g17 g18 g19 g20 s21 g22 g23 g24 s25 s26 s27 s28 g29 g30 g31 g32 g33, ai_ cy g5 40 f5, ai_ cy g8 40 f8] [0, 1, 2] (by decide) rfl (fun hPc hDw => ?_)
  have hFc := va_free (wc := []) hD hS hA [] rfl
  refine va_calli (va_runV (As := [.int a1, .int a2]) (rest := []) ⟨hx, hb, hml, hown, hts⟩ (c_X12_lets l D cy s.heap.size mo g5 g6 g7 g8 g9 g10 g12 g13 g14 g15 g16 g17 g18 g19 g20 g22 g23 g24 g29 g30 g31 g32 g33 s0 s1 s3 s4 s11 s21 s25 s26 s27 s28 t2 f5 f8 a1 a2 (by first | with_reducible assumption | omega | assumption)) (cwV 2 hts gX12_room_X12_lets rfl rfl rfl ⟨rfl, hd_X12_lets⟩ ⟨Nat.le_of_ble_eq_true rfl, Nat.le_of_ble_eq_true rfl⟩) ⟨bl_, va_recvX hK.1 hP (ci := 12) (q0 := 0) rfl rfl, fun U hU hW => ⟨rfl, by rw [hU], by rw [hU]; exact hPc, kk_mv hW hK, hDw⟩⟩ rfl rfl hl.1 rfl (lv_room (Nat.le_of_ble_eq_true rfl)) dB_3_1_54.1.1.2.2 ⟨Nat.le_of_ble_eq_true rfl, Nat.le_of_ble_eq_true rfl⟩) hS (fun q _ h => hFc q h) hFc (fun r_1 u t H locs ht hvm hw hB hz1 hk1 hS => ?_)
  have hP : va_P D vwCl _ H := ro_keep hP hk1
  have f0_r_1 := hw
  refine lv_istore_n (lv' := [(3, .int r_1), (0, .ref mo), (1, .int a1), (2, .int a2)]) hx hb dB_3_1_54.1.2.1.1 rfl hl (by decide) rfl (fun ls hl => ?_)
  refine lv_iload_n hx hb dB_3_1_54.1.2.1.2 rfl (lv_at hl 2 rfl) ?_
  refine lv_aload_n hx hb dB_3_1_54.1.2.2.1 rfl (lv_at hl 1 rfl) ?_
  refine va_get (ci := 12) (v := .int s21) (C := RX12) (T := TX12) (N := 34) hx hb hts (fun _ h => List.mem_cons_of_mem _ (List.mem_append_right _ h)) hown hK.1 hP 0 rfl rfl 21 (by decide) (hts (.fieldLink RX12 57 "CutAtlasModel" "raised" "I") (List.mem_of_getElem? (i := 1) rfl)) (fun _ h9 => h9) rfl dB_3_1_54.1.2.2.2 ?_
  refine lv_icmp_ne (tgt := 39) hx hb dB_3_1_54.2.1.1.1 (by decide) (fun c_2 => ?_) (fun c_2 => ?_)
  · have t_2 : ¬ a1.toInt = s21.toInt := fun h => c_2 (Int32.toInt_inj.mp h)
    refine lv_iconst (v := 0) hx hb dB_3_1_55.1.2.2.1 (by decide) ?_
    refine lv_istore (lv' := [(4, .int 0), (3, .int r_1), (0, .ref mo), (1, .int a1), (2, .int a2)]) hx hb dB_3_1_55.1.2.2.2 hl (by decide) rfl (fun ls hl => ?_)
    refine lv_iload_n hx hb dB_3_1_55.2.1.1.1 rfl (lv_at hl 1 rfl) ?_
    refine lv_bipush (v := (-5)) hx hb dB_3_1_55.2.1.1.2 (by decide) ?_
    refine lv_icmp_ne (tgt := 53) hx hb dB_3_1_55.2.1.2.1 (by decide) (fun c_3 => ?_) (fun c_3 => ?_)
    · have t_3 : ¬ r_1.toInt = ((-5) : Int32).toInt := fun h => c_3 (Int32.toInt_inj.mp h)
      refine lv_iload hx hb dB_3_1_55.2.2.1.2 (lv_at hl 0 rfl) ?_
      refine lv_if_eq (tgt := 64) hx hb dB_3_1_55.2.2.2.1 (by decide) (fun c_4 => ?_) (fun c_4 => ?_)
      · have _ := c_4
        refine lv_iload_n hx hb dB_3_1_56.2.2.1 rfl (lv_at hl 1 rfl) ?_
        rw [hQ]
        exact W.iret (v := r_1) hx hb hr (fun t ht hW => ⟨⟨r_1, (), rfl, (by first | (simp only [ml_room]; try simp only [← f0_r_1]; simp [c_2, c_3]; done) | (simp only [ml_room]; try simp only [← f0_r_1]; done) | (exfalso; omega)), trivial⟩, hS.F ht⟩) hS.2.2 dB_3_1_56.2.2.2
      · exact absurd c_4 (by decide)
    · have t_3 : r_1.toInt = ((-5) : Int32).toInt := congrArg Int32.toInt c_3
      refine lv_ldc (v := 1000000) hx hb hown (hts (.constant RX12 159 (1000000)) (List.mem_of_getElem? (i := 3) rfl)) dB_3_1_55.2.1.2.2 ?_
      refine lv_goto (tgt := 65) hx hb dB_3_1_55.2.2.1.1 (by decide) ?_
      rw [hQ]
      exact W.iret (v := 1000000) hx hb hr (fun t ht hW => ⟨⟨1000000, (), rfl, (by first | (simp only [ml_room]; try simp only [← f0_r_1]; simp [c_2, c_3]; done) | (simp only [ml_room]; try simp only [← f0_r_1]; done) | (exfalso; omega)), trivial⟩, hS.F ht⟩) hS.2.2 dB_3_1_56.2.2.2
  · have t_2 : a1.toInt = s21.toInt := congrArg Int32.toInt c_2
    refine lv_iload_n hx hb dB_3_1_54.2.1.1.2 rfl (lv_at hl 0 rfl) ?_
    refine lv_bipush (v := (-5)) hx hb dB_3_1_54.2.1.2.1 (by decide) ?_
    refine lv_icmp_eq (tgt := 39) hx hb dB_3_1_54.2.1.2.2 (by decide) (fun c_5 => ?_) (fun c_5 => ?_)
    · have t_5 : r_1.toInt = ((-5) : Int32).toInt := congrArg Int32.toInt c_5
      refine lv_iconst (v := 0) hx hb dB_3_1_55.1.2.2.1 (by decide) ?_
      refine lv_istore (lv' := [(4, .int 0), (3, .int r_1), (0, .ref mo), (1, .int a1), (2, .int a2)]) hx hb dB_3_1_55.1.2.2.2 hl (by decide) rfl (fun ls hl => ?_)
      refine lv_iload_n hx hb dB_3_1_55.2.1.1.1 rfl (lv_at hl 1 rfl) ?_
      refine lv_bipush (v := (-5)) hx hb dB_3_1_55.2.1.1.2 (by decide) ?_
      refine lv_icmp_ne (tgt := 53) hx hb dB_3_1_55.2.1.2.1 (by decide) (fun c_6 => ?_) (fun c_6 => ?_)
      · have t_6 : ¬ r_1.toInt = ((-5) : Int32).toInt := fun h => c_6 (Int32.toInt_inj.mp h)
        exfalso; omega
      · have t_6 : r_1.toInt = ((-5) : Int32).toInt := congrArg Int32.toInt c_6
        refine lv_ldc (v := 1000000) hx hb hown (hts (.constant RX12 159 (1000000)) (List.mem_of_getElem? (i := 3) rfl)) dB_3_1_55.2.1.2.2 ?_
        refine lv_goto (tgt := 65) hx hb dB_3_1_55.2.2.1.1 (by decide) ?_
        rw [hQ]
        exact W.iret (v := 1000000) hx hb hr (fun t ht hW => ⟨⟨1000000, (), rfl, (by first | (simp only [ml_room]; try simp only [← f0_r_1]; simp [c_2, c_5, c_6]; done) | (simp only [ml_room]; try simp only [← f0_r_1]; done) | (exfalso; omega)), trivial⟩, hS.F ht⟩) hS.2.2 dB_3_1_56.2.2.2
    · have t_5 : ¬ r_1.toInt = ((-5) : Int32).toInt := fun h => c_5 (Int32.toInt_inj.mp h)
      refine lv_aload_n hx hb dB_3_1_54.2.2.1.1 rfl (lv_at hl 1 rfl) ?_
      refine va_get (ci := 12) (v := .ref g5) (C := RX12) (T := TX12) (N := 34) hx hb hts (fun _ h => List.mem_cons_of_mem _ (List.mem_append_right _ h)) hown hK.1 hP 0 rfl rfl 5 (by decide) (hts (.fieldLink RX12 7 "CutAtlasModel" "kind" "[I") (List.mem_of_getElem? (i := 2) rfl)) (fun _ h9 => h9) rfl dB_3_1_54.2.2.1.2 ?_
      refine lv_iload_n hx hb dB_3_1_54.2.2.2.1 rfl (lv_at hl 2 rfl) ?_
      have h_7 : vp_in a1 40 := in_I (by first | with_reducible assumption | omega) (by omega)
      refine va_iald hx hb hK.1 hP 1 0 rfl rfl (i := a1) h_7 dB_3_1_54.2.2.2.2 ?_
      refine lv_topi (fun y_8 ey_8 => ?_)
      refine lv_iconst (v := 1) hx hb dB_3_1_55.1.1.1.1 (by decide) ?_
      refine lv_icmp_ne (tgt := 35) hx hb dB_3_1_55.1.1.1.2 (by decide) (fun c_9 => ?_) (fun c_9 => ?_)
      · have t_9 : ¬ y_8.toInt = (1 : Int32).toInt := fun h => c_9 (Int32.toInt_inj.mp h)
        refine lv_iconst (v := 1) hx hb dB_3_1_55.1.2.1.1 (by decide) ?_
        refine lv_goto (tgt := 40) hx hb dB_3_1_55.1.2.1.2 (by decide) ?_
        refine lv_istore (lv' := [(4, .int 1), (3, .int r_1), (0, .ref mo), (1, .int a1), (2, .int a2)]) hx hb dB_3_1_55.1.2.2.2 hl (by decide) rfl (fun ls hl => ?_)
        refine lv_iload_n hx hb dB_3_1_55.2.1.1.1 rfl (lv_at hl 1 rfl) ?_
        refine lv_bipush (v := (-5)) hx hb dB_3_1_55.2.1.1.2 (by decide) ?_
        refine lv_icmp_ne (tgt := 53) hx hb dB_3_1_55.2.1.2.1 (by decide) (fun c_10 => ?_) (fun c_10 => ?_)
        · have t_10 : ¬ r_1.toInt = ((-5) : Int32).toInt := fun h => c_10 (Int32.toInt_inj.mp h)
          refine lv_iload hx hb dB_3_1_55.2.2.1.2 (lv_at hl 0 rfl) ?_
          refine lv_if_eq (tgt := 64) hx hb dB_3_1_55.2.2.2.1 (by decide) (fun c_11 => ?_) (fun c_11 => ?_)
          · exact absurd c_11 (by decide)
          · have _ := c_11
            refine lv_iload_n hx hb dB_3_1_55.2.2.2.2 rfl (lv_at hl 1 rfl) ?_
            refine lv_iconst (v := 1) hx hb dB_3_1_56.1.1 (by decide) ?_
            refine lv_iadd hx hb dB_3_1_56.1.2 ?_
            refine lv_topi (fun y_12 ey_12 => ?_)
            refine lv_goto (tgt := 65) hx hb dB_3_1_56.2.1 (by decide) ?_
            rw [hQ]
            exact W.iret (v := y_12) hx hb hr (fun t ht hW => ⟨⟨y_12, (), rfl, (by first | (simp only [ml_room]; try simp only [← f0_r_1]; try simp only [← ey_8]; simp [c_2, c_5, c_9, c_10, ey_12]; done) | (simp only [ml_room]; try simp only [← f0_r_1]; try simp only [← ey_8]; done) | (exfalso; omega)), trivial⟩, hS.F ht⟩) hS.2.2 dB_3_1_56.2.2.2
        · have t_10 : r_1.toInt = ((-5) : Int32).toInt := congrArg Int32.toInt c_10
          refine lv_ldc (v := 1000000) hx hb hown (hts (.constant RX12 159 (1000000)) (List.mem_of_getElem? (i := 3) rfl)) dB_3_1_55.2.1.2.2 ?_
          refine lv_goto (tgt := 65) hx hb dB_3_1_55.2.2.1.1 (by decide) ?_
          rw [hQ]
          exact W.iret (v := 1000000) hx hb hr (fun t ht hW => ⟨⟨1000000, (), rfl, (by first | (simp only [ml_room]; try simp only [← f0_r_1]; try simp only [← ey_8]; simp [c_2, c_5, c_9, c_10]; done) | (simp only [ml_room]; try simp only [← f0_r_1]; try simp only [← ey_8]; done) | (exfalso; omega)), trivial⟩, hS.F ht⟩) hS.2.2 dB_3_1_56.2.2.2
      · have t_9 : y_8.toInt = (1 : Int32).toInt := congrArg Int32.toInt c_9
        refine lv_iload_n hx hb dB_3_1_55.1.1.2.1 rfl (lv_at hl 3 rfl) ?_
        refine lv_if_eq (tgt := 39) hx hb dB_3_1_55.1.1.2.2 (by decide) (fun c_13 => ?_) (fun c_13 => ?_)
        · have t_13 : a2.toInt = (0 : Int32).toInt := congrArg Int32.toInt c_13
          refine lv_iconst (v := 0) hx hb dB_3_1_55.1.2.2.1 (by decide) ?_
          refine lv_istore (lv' := [(4, .int 0), (3, .int r_1), (0, .ref mo), (1, .int a1), (2, .int a2)]) hx hb dB_3_1_55.1.2.2.2 hl (by decide) rfl (fun ls hl => ?_)
          refine lv_iload_n hx hb dB_3_1_55.2.1.1.1 rfl (lv_at hl 1 rfl) ?_
          refine lv_bipush (v := (-5)) hx hb dB_3_1_55.2.1.1.2 (by decide) ?_
          refine lv_icmp_ne (tgt := 53) hx hb dB_3_1_55.2.1.2.1 (by decide) (fun c_14 => ?_) (fun c_14 => ?_)
          · have t_14 : ¬ r_1.toInt = ((-5) : Int32).toInt := fun h => c_14 (Int32.toInt_inj.mp h)
            refine lv_iload hx hb dB_3_1_55.2.2.1.2 (lv_at hl 0 rfl) ?_
            refine lv_if_eq (tgt := 64) hx hb dB_3_1_55.2.2.2.1 (by decide) (fun c_15 => ?_) (fun c_15 => ?_)
            · have _ := c_15
              refine lv_iload_n hx hb dB_3_1_56.2.2.1 rfl (lv_at hl 1 rfl) ?_
              rw [hQ]
              exact W.iret (v := r_1) hx hb hr (fun t ht hW => ⟨⟨r_1, (), rfl, (by first | (simp only [ml_room]; try simp only [← f0_r_1]; try simp only [← ey_8]; simp [c_2, c_5, c_9, c_13, c_14]; done) | (simp only [ml_room]; try simp only [← f0_r_1]; try simp only [← ey_8]; done) | (exfalso; omega)), trivial⟩, hS.F ht⟩) hS.2.2 dB_3_1_56.2.2.2
            · exact absurd c_15 (by decide)
          · have t_14 : r_1.toInt = ((-5) : Int32).toInt := congrArg Int32.toInt c_14
            refine lv_ldc (v := 1000000) hx hb hown (hts (.constant RX12 159 (1000000)) (List.mem_of_getElem? (i := 3) rfl)) dB_3_1_55.2.1.2.2 ?_
            refine lv_goto (tgt := 65) hx hb dB_3_1_55.2.2.1.1 (by decide) ?_
            rw [hQ]
            exact W.iret (v := 1000000) hx hb hr (fun t ht hW => ⟨⟨1000000, (), rfl, (by first | (simp only [ml_room]; try simp only [← f0_r_1]; try simp only [← ey_8]; simp [c_2, c_5, c_9, c_13, c_14]; done) | (simp only [ml_room]; try simp only [← f0_r_1]; try simp only [← ey_8]; done) | (exfalso; omega)), trivial⟩, hS.F ht⟩) hS.2.2 dB_3_1_56.2.2.2
        · have t_13 : ¬ a2.toInt = (0 : Int32).toInt := fun h => c_13 (Int32.toInt_inj.mp h)
          refine lv_iconst (v := 1) hx hb dB_3_1_55.1.2.1.1 (by decide) ?_
          refine lv_goto (tgt := 40) hx hb dB_3_1_55.1.2.1.2 (by decide) ?_
          refine lv_istore (lv' := [(4, .int 1), (3, .int r_1), (0, .ref mo), (1, .int a1), (2, .int a2)]) hx hb dB_3_1_55.1.2.2.2 hl (by decide) rfl (fun ls hl => ?_)
          refine lv_iload_n hx hb dB_3_1_55.2.1.1.1 rfl (lv_at hl 1 rfl) ?_
          refine lv_bipush (v := (-5)) hx hb dB_3_1_55.2.1.1.2 (by decide) ?_
          refine lv_icmp_ne (tgt := 53) hx hb dB_3_1_55.2.1.2.1 (by decide) (fun c_16 => ?_) (fun c_16 => ?_)
          · have t_16 : ¬ r_1.toInt = ((-5) : Int32).toInt := fun h => c_16 (Int32.toInt_inj.mp h)
            refine lv_iload hx hb dB_3_1_55.2.2.1.2 (lv_at hl 0 rfl) ?_
            refine lv_if_eq (tgt := 64) hx hb dB_3_1_55.2.2.2.1 (by decide) (fun c_17 => ?_) (fun c_17 => ?_)
            · exact absurd c_17 (by decide)
            · have _ := c_17
              refine lv_iload_n hx hb dB_3_1_55.2.2.2.2 rfl (lv_at hl 1 rfl) ?_
              refine lv_iconst (v := 1) hx hb dB_3_1_56.1.1 (by decide) ?_
              refine lv_iadd hx hb dB_3_1_56.1.2 ?_
              refine lv_topi (fun y_18 ey_18 => ?_)
              refine lv_goto (tgt := 65) hx hb dB_3_1_56.2.1 (by decide) ?_
              rw [hQ]
              exact W.iret (v := y_18) hx hb hr (fun t ht hW => ⟨⟨y_18, (), rfl, (by first | (simp only [ml_room]; try simp only [← f0_r_1]; try simp only [← ey_8]; simp [c_2, c_5, c_9, c_13, c_16, ey_18]; done) | (simp only [ml_room]; try simp only [← f0_r_1]; try simp only [← ey_8]; done) | (exfalso; omega)), trivial⟩, hS.F ht⟩) hS.2.2 dB_3_1_56.2.2.2
          · have t_16 : r_1.toInt = ((-5) : Int32).toInt := congrArg Int32.toInt c_16
            refine lv_ldc (v := 1000000) hx hb hown (hts (.constant RX12 159 (1000000)) (List.mem_of_getElem? (i := 3) rfl)) dB_3_1_55.2.1.2.2 ?_
            refine lv_goto (tgt := 65) hx hb dB_3_1_55.2.2.1.1 (by decide) ?_
            rw [hQ]
            exact W.iret (v := 1000000) hx hb hr (fun t ht hW => ⟨⟨1000000, (), rfl, (by first | (simp only [ml_room]; try simp only [← f0_r_1]; try simp only [← ey_8]; simp [c_2, c_5, c_9, c_13, c_16]; done) | (simp only [ml_room]; try simp only [← f0_r_1]; try simp only [← ey_8]; done) | (exfalso; omega)), trivial⟩, hS.F ht⟩) hS.2.2 dB_3_1_56.2.2.2

set_option maxHeartbeats 4000000 in
set_option maxRecDepth 100000 in
theorem c_X12_costsTrace (l : Launch) (D : va_G) (cy : Nat → ClassId) (sz : Nat) (mo : Nat) (g5 : Nat) (g6 : Nat) (g7 : Nat) (g8 : Nat) (g9 : Nat) (g10 : Nat) (g12 : Nat) (g13 : Nat) (g14 : Nat) (g15 : Nat) (g16 : Nat) (g17 : Nat) (g18 : Nat) (g19 : Nat) (g20 : Nat) (g22 : Nat) (g23 : Nat) (g24 : Nat) (g29 : Nat) (g30 : Nat) (g31 : Nat) (g32 : Nat) (g33 : Nat) (s0 : Int32) (s1 : Int32) (s3 : Int32) (s4 : Int32) (s11 : Int32) (s21 : Int32) (s25 : Int32) (s26 : Int32) (s27 : Int32) (s28 : Int32) (t2 : Int64) (f5 : Nat → Int32) (a1 : Int32) (q1 : 0 ≤ a1.toInt ∧ a1.toInt < 40) : Met l yX12_costsTrace wsX12_costsTrace ({ frames := 0, cells := 0, slots := 0, locals := 0 }) (va_Pc [.ref mo, .int a1] (fun U => U.heap.size = sz ∧ va_P D vwCl [ob12_0_ mo s0 s1 t2 s3 s4 g5 g6 g7 g8 g9 g10 s11 g12 g13 g14 g15 g16 g17 g18 g19 g20 s21 g22 g23 g24 s25 s26 s27 s28 g29 g30 g31 g32 g33, ai_ cy g5 40 f5] U.heap ∧ kk_ D cy U ∧ va_D (fun _ => True) [ob12_0_ mo s0 s1 t2 s3 s4 g5 g6 g7 g8 g9 g10 s11 g12 g13 g14 g15 g16 g17 g18 g19 g20 s21 g22 g23 g24 s25 s26 s27 s28 g29 g30 g31 g32 g33, ai_ cy g5 40 f5])) (va_Ql (fun (r : Int64) (_ : Unit) => True) (fun (_ : Unit) (_ : State) => True) (va_A [] sz)) 0 0 (va_A [] sz) := by
  refine ofQ (cc := cX12_costsTrace) (maxL := 2) (ret := (some .long)) (by decide) rfl ?_
  intro p e s m args below meth c s₁ Q hQ B hml hv
  obtain ⟨rfl, hsz, hP, hK, hD0⟩ := hv
  have hx := B.exec
  have hb := B.bytes
  have hr := B.returns
  have hts := atoms_spec (ws := wsX12_costsTrace) B.pre
  have hown : s.vm.findClass RX12 = some m.cls := by have h_ := findClass_of_methodNamed B.named; exact h_
  have hlocks := B.notSynchronized
  subst hsz
  have hD : va_D (va_A [] s.heap.size) [] := dd_nil
  generalize hAe : va_A [] s.heap.size = A at hD hQ
  have hA : ∀ q : Nat, s.heap.size ≤ q → A q := fun q h => by rw [← hAe]; exact Or.inr h
  have hS : va_S A s.heap s.heap [] := va_S.rf
  have hl := lv_entry ([.ref mo, .int a1]) (n := 2) (Nat.le_of_ble_eq_true rfl)
  rw [lg_entry_eq]
  generalize (lg_sl ([.ref mo, .int a1]) ++ List.replicate (2 - (lg_sl ([.ref mo, .int a1])).length) Slot.unset).toArray = ls at hl ⊢
  have hl : lv_has ls 2 [(0, .ref mo), (1, .int a1)] := hl
  have z3 : (3 : Int32).toInt = 3 := by decide
  have z4 : (4 : Int32).toInt = 4 := by decide
  have zl1000 : (1000 : Int64).toInt = 1000 := by decide
  have zl10000 : (10000 : Int64).toInt = 10000 := by decide
  have zl110000 : (110000 : Int64).toInt = 110000 := by decide
  refine lv_aload_n hx hb dB_3_0_7.1.1.1.1 rfl (lv_at hl 0 rfl) ?_
  refine va_get (ci := 12) (v := .ref g5) (C := RX12) (T := TX12) (N := 34) hx hb hts (fun _ h => List.mem_cons_of_mem _ (List.mem_append_right _ h)) hown hK.1 hP 0 rfl rfl 5 (by decide) (hts (.fieldLink RX12 7 "CutAtlasModel" "kind" "[I") (List.mem_of_getElem? (i := 1) rfl)) (fun _ h9 => h9) rfl dB_3_0_7.1.1.1.2 ?_
  refine lv_iload_n hx hb dB_3_0_7.1.1.2.1 rfl (lv_at hl 1 rfl) ?_
  have h_1 : vp_in a1 40 := in_I (by first | with_reducible assumption | omega) (by omega)
  refine va_iald hx hb hK.1 hP 1 0 rfl rfl (i := a1) h_1 dB_3_0_7.1.1.2.2 ?_
  refine lv_topi (fun y_2 ey_2 => ?_)
  refine lv_iconst (v := 3) hx hb dB_3_0_7.1.2.1.1 (by decide) ?_
  refine lv_icmp_ne (tgt := 16) hx hb dB_3_0_7.1.2.1.2 (by decide) (fun c_3 => ?_) (fun c_3 => ?_)
  · have t_3 : ¬ y_2.toInt = (3 : Int32).toInt := fun h => c_3 (Int32.toInt_inj.mp h)
    refine lv_aload_n hx hb dB_3_0_7.2.1.1.1 rfl (lv_at hl 0 rfl) ?_
    refine va_get (ci := 12) (v := .ref g5) (C := RX12) (T := TX12) (N := 34) hx hb hts (fun _ h => List.mem_cons_of_mem _ (List.mem_append_right _ h)) hown hK.1 hP 0 rfl rfl 5 (by decide) (hts (.fieldLink RX12 7 "CutAtlasModel" "kind" "[I") (List.mem_of_getElem? (i := 1) rfl)) (fun _ h9 => h9) rfl dB_3_0_7.2.1.1.2 ?_
    refine lv_iload_n hx hb dB_3_0_7.2.1.2.1 rfl (lv_at hl 1 rfl) ?_
    refine va_iald hx hb hK.1 hP 1 0 rfl rfl (i := a1) h_1 dB_3_0_7.2.1.2.2 ?_
    refine lv_topi (fun y_5 ey_5 => ?_)
    have e_ := (ey_5.trans ey_2.symm).symm
    subst e_
    skip
    refine lv_iconst (v := 4) hx hb dB_3_0_7.2.2.1.1 (by decide) ?_
    refine lv_icmp_ne (tgt := 32) hx hb dB_3_0_7.2.2.1.2 (by decide) (fun c_6 => ?_) (fun c_6 => ?_)
    · have t_6 : ¬ y_2.toInt = (4 : Int32).toInt := fun h => c_6 (Int32.toInt_inj.mp h)
      refine lv_ldc2 (v := 1000) hx hb hown (hts (.constantLong RX12 110 (1000)) (List.mem_of_getElem? (i := 4) rfl)) dB_3_0_8.1 ?_
      rw [hQ]
      exact W.lret (v := 1000) hx hb hr (fun t ht hW => ⟨⟨1000, (), rfl, trivial, trivial⟩, hS.F ht⟩) hS.2.2 dB_3_0_8.2
    · have t_6 : y_2.toInt = (4 : Int32).toInt := congrArg Int32.toInt c_6
      refine lv_ldc2 (v := 110000) hx hb hown (hts (.constantLong RX12 130 (110000)) (List.mem_of_getElem? (i := 3) rfl)) dB_3_0_7.2.2.2.1 ?_
      refine lv_goto (tgt := 35) hx hb dB_3_0_7.2.2.2.2 (by decide) ?_
      rw [hQ]
      exact W.lret (v := 110000) hx hb hr (fun t ht hW => ⟨⟨110000, (), rfl, trivial, trivial⟩, hS.F ht⟩) hS.2.2 dB_3_0_8.2
  · have t_3 : y_2.toInt = (3 : Int32).toInt := congrArg Int32.toInt c_3
    refine lv_ldc2 (v := 10000) hx hb hown (hts (.constantLong RX12 128 (10000)) (List.mem_of_getElem? (i := 2) rfl)) dB_3_0_7.1.2.2.1 ?_
    refine lv_goto (tgt := 35) hx hb dB_3_0_7.1.2.2.2 (by decide) ?_
    rw [hQ]
    exact W.lret (v := 10000) hx hb hr (fun t ht hW => ⟨⟨10000, (), rfl, trivial, trivial⟩, hS.F ht⟩) hS.2.2 dB_3_0_8.2

set_option maxHeartbeats 4000000 in
set_option maxRecDepth 100000 in
theorem c_X12_bitsOf (l : Launch) (D : va_G) (cy : Nat → ClassId) (sz : Nat) (a1 : Int32) : Met l yX12_bitsOf wsX12_bitsOf ({ frames := 0, cells := 0, slots := 0, locals := 0 }) (va_Pc [.int a1] (fun U => U.heap.size = sz ∧ va_P D vwCl [] U.heap ∧ kk_ D cy U ∧ va_D (fun _ => True) [])) (va_Qi (fun (r : Int32) (_ : Unit) => True) (fun (_ : Unit) (_ : State) => True) (va_A [] sz)) 0 0 (va_A [] sz) := by
  refine ofQ (cc := cX12_bitsOf) (maxL := 3) (ret := (some .int)) (by decide) rfl ?_
  intro p e s m args below meth c s₁ Q hQ B hml hv
  obtain ⟨rfl, hsz, hP, hK, hD0⟩ := hv
  have hx := B.exec
  have hb := B.bytes
  have hr := B.returns
  have hts := atoms_spec (ws := wsX12_bitsOf) B.pre
  have hown : s.vm.findClass RX12 = some m.cls := by have h_ := findClass_of_methodNamed B.named; exact h_
  have hlocks := B.notSynchronized
  subst hsz
  have hD : va_D (va_A [] s.heap.size) [] := dd_nil
  generalize hAe : va_A [] s.heap.size = A at hD hQ
  have hA : ∀ q : Nat, s.heap.size ≤ q → A q := fun q h => by rw [← hAe]; exact Or.inr h
  have hS : va_S A s.heap s.heap [] := va_S.rf
  have hl := lv_entry ([.int a1]) (n := 3) (Nat.le_of_ble_eq_true rfl)
  rw [lg_entry_eq]
  generalize (lg_sl ([.int a1]) ++ List.replicate (3 - (lg_sl ([.int a1])).length) Slot.unset).toArray = ls at hl ⊢
  have hl : lv_has ls 3 [(0, .int a1)] := hl
  have z0 : (0 : Int32).toInt = 0 := by decide
  have z1 : (1 : Int32).toInt = 1 := by decide
  have z12 : (12 : Int32).toInt = 12 := by decide
  refine lv_iconst (v := 0) hx hb dB_3_1_6.1.1.1.1 (by decide) ?_
  refine lv_istore_n (lv' := [(1, .int 0), (0, .int a1)]) hx hb dB_3_1_6.1.1.1.2 rfl hl (by decide) rfl (fun ls hl => ?_)
  refine lv_iconst (v := 0) hx hb dB_3_1_6.1.1.2.1 (by decide) ?_
  refine lv_istore_n (lv' := [(2, .int 0), (1, .int 0), (0, .int a1)]) hx hb dB_3_1_6.1.1.2.2 rfl hl (by decide) rfl (fun ls hl => ?_)
  suffices LOOP_1 : ∀ (n_1 : Nat) (x2_1 : Int32) (x1_1 : Int32) (H : Heap) (locs : List Loc) (ls : Array Slot), 12 - x2_1.toInt < (n_1 : Int) → (0 ≤ x2_1.toInt) → (x2_1.toInt ≤ 12) → va_P D vwCl [] H → va_S A s.heap H locs → lv_has ls 3 [(2, .int x2_1), (1, .int x1_1), (0, .int a1)] → W p l e ({ frames := 0, cells := 0, slots := 0, locals := 0 } : Room) s m (([.int a1] : List Value).toArray) below meth c H locs 0 0 Q (F0 m 4 ls []) from LOOP_1 ((12 - (0 : Int32).toInt).toNat + 1) (0 : Int32) (0 : Int32) _ _ _ (by omega) (by first | with_reducible assumption | omega | assumption) (by first | with_reducible assumption | omega | assumption) hP hS (lv_sub hl [0, 1, 2] rfl)
  intro n_1
  induction n_1 with
  | zero =>
    intro x2_1 x1_1 H locs ls hm v0_1 v1_1 hP hS hl
    exact absurd hm (by omega)
  | succ n_1 ih_1 =>
    intro x2_1 x1_1 H locs ls hm v0_1 v1_1 hP hS hl
    refine lv_iload_n hx hb dB_3_1_6.1.2.1.1 rfl (lv_at hl 0 rfl) ?_
    refine lv_bipush (v := 12) hx hb dB_3_1_6.1.2.1.2 (by decide) ?_
    refine lv_icmp_ge (tgt := 24) hx hb dB_3_1_6.1.2.2.1 (by decide) (fun c_2 => ?_) (fun c_2 => ?_)
    · have t_2 : (12 : Int32).toInt ≤ x2_1.toInt := Int32.le_iff_toInt_le.mp c_2
      refine lv_iload_n hx hb dB_3_1_7.2.1 rfl (lv_at hl 1 rfl) ?_
      rw [hQ]
      exact W.iret (v := x1_1) hx hb hr (fun t ht hW => ⟨⟨x1_1, (), rfl, trivial, trivial⟩, hS.F ht⟩) hS.2.2 dB_3_1_7.2.2
    · have t_2 : ¬ (12 : Int32).toInt ≤ x2_1.toInt := fun h => c_2 (Int32.le_iff_toInt_le.mpr h)
      refine lv_iload_n hx hb dB_3_1_6.1.2.2.2 rfl (lv_at hl 1 rfl) ?_
      refine lv_iload_n hx hb dB_3_1_6.2.1.1.1 rfl (lv_at hl 2 rfl) ?_
      refine lv_iload_n hx hb dB_3_1_6.2.1.1.2 rfl (lv_at hl 0 rfl) ?_
      refine lv_ishr hx hb dB_3_1_6.2.1.2.1 ?_
      refine lv_topi (fun y_3 ey_3 => ?_)
      refine lv_iconst (v := 1) hx hb dB_3_1_6.2.1.2.2 (by decide) ?_
      refine lv_iand hx hb dB_3_1_6.2.2.1.1 ?_
      refine lv_topi (fun y_4 ey_4 => ?_)
      refine lv_iadd hx hb dB_3_1_6.2.2.1.2 ?_
      refine lv_topi (fun y_5 ey_5 => ?_)
      refine lv_istore_n (lv' := [(1, .int y_5), (2, .int x2_1), (0, .int a1)]) hx hb dB_3_1_6.2.2.2.1 rfl hl (by decide) rfl (fun ls hl => ?_)
      obtain ⟨y_6, ey_6⟩ : ∃ y : Int32, y = x2_1 + 1 := ⟨_, rfl⟩
      have ty_6 : y_6.toInt = x2_1.toInt + (1 : Int32).toInt := by rw [ey_6]; exact addI (by omega) (by omega)
      refine lv_iinc (v := y_6) (lv' := [(2, .int y_6), (1, .int y_5), (0, .int a1)]) hx hb dB_3_1_6.2.2.2.2 hl (k := 1) rfl (by rw [ey_6]; rfl) (by decide) rfl (fun ls hl => ?_)
      refine lv_goto (tgt := 4) hx hb dB_3_1_7.1 (by decide) ?_
      exact ih_1 y_6 y_5 _ _ _ (by omega) (by first | with_reducible assumption | omega | assumption) (by first | with_reducible assumption | omega | assumption) hP hS (lv_sub hl [0, 1, 2] rfl)
end
