theorem dB_3_3_0 : ((((decode cX12_dense 101 = .ok (.iand, 1)) ∧ (decode cX12_dense 102 = .ok (.iconst 1, 1))) ∧ ((decode cX12_dense 103 = .ok (.if_icmp .ne 13, 3)) ∧ (decode cX12_dense 106 = .ok (.aload_n 0, 1)))) ∧ (((decode cX12_dense 107 = .ok (.getfield 19, 3)) ∧ (decode cX12_dense 110 = .ok (.iload 6, 2))) ∧ ((decode cX12_dense 112 = .ok (.iaload, 1)) ∧ (decode cX12_dense 113 = .ok (.goto 4, 3))))) ∧ ((((decode cX12_dense 116 = .ok (.iconst 0, 1)) ∧ (decode cX12_dense 117 = .ok (.iadd, 1))) ∧ ((decode cX12_dense 118 = .ok (.istore 5, 2)) ∧ (decode cX12_dense 120 = .ok (.iinc 6 1, 3)))) ∧ (((decode cX12_dense 123 = .ok (.goto (-70), 3)) ∧ (decode cX12_dense 126 = .ok (.iload 5, 2))) ∧ ((decode cX12_dense 128 = .ok (.i2l, 1)) ∧ (decode cX12_dense 129 = .ok (.iload_n 2, 1))))) := by first | decide +kernel | ((repeat' apply And.intro) <;> decide +kernel)
theorem dX12_dense_101 : decode cX12_dense 101 = .ok (.iand, 1) := dB_3_3_0.1.1.1.1
theorem dX12_dense_102 : decode cX12_dense 102 = .ok (.iconst 1, 1) := dB_3_3_0.1.1.1.2
theorem dX12_dense_103 : decode cX12_dense 103 = .ok (.if_icmp .ne 13, 3) := dB_3_3_0.1.1.2.1
theorem dX12_dense_106 : decode cX12_dense 106 = .ok (.aload_n 0, 1) := dB_3_3_0.1.1.2.2
theorem dX12_dense_107 : decode cX12_dense 107 = .ok (.getfield 19, 3) := dB_3_3_0.1.2.1.1
theorem dX12_dense_110 : decode cX12_dense 110 = .ok (.iload 6, 2) := dB_3_3_0.1.2.1.2
theorem dX12_dense_112 : decode cX12_dense 112 = .ok (.iaload, 1) := dB_3_3_0.1.2.2.1
theorem dX12_dense_113 : decode cX12_dense 113 = .ok (.goto 4, 3) := dB_3_3_0.1.2.2.2
theorem dX12_dense_116 : decode cX12_dense 116 = .ok (.iconst 0, 1) := dB_3_3_0.2.1.1.1
theorem dX12_dense_117 : decode cX12_dense 117 = .ok (.iadd, 1) := dB_3_3_0.2.1.1.2
theorem dX12_dense_118 : decode cX12_dense 118 = .ok (.istore 5, 2) := dB_3_3_0.2.1.2.1
theorem dX12_dense_120 : decode cX12_dense 120 = .ok (.iinc 6 1, 3) := dB_3_3_0.2.1.2.2
theorem dX12_dense_123 : decode cX12_dense 123 = .ok (.goto (-70), 3) := dB_3_3_0.2.2.1.1
theorem dX12_dense_126 : decode cX12_dense 126 = .ok (.iload 5, 2) := dB_3_3_0.2.2.1.2
theorem dX12_dense_128 : decode cX12_dense 128 = .ok (.i2l, 1) := dB_3_3_0.2.2.2.1
theorem dX12_dense_129 : decode cX12_dense 129 = .ok (.iload_n 2, 1) := dB_3_3_0.2.2.2.2
theorem dB_3_3_1 : ((((decode cX12_dense 130 = .ok (.invokestatic 204, 3)) ∧ (decode cX12_dense 133 = .ok (.i2l, 1))) ∧ ((decode cX12_dense 134 = .ok (.lmul, 1)) ∧ (decode cX12_dense 135 = .ok (.iload_n 3, 1)))) ∧ (((decode cX12_dense 136 = .ok (.i2l, 1)) ∧ (decode cX12_dense 137 = .ok (.iload 4, 2))) ∧ ((decode cX12_dense 139 = .ok (.invokestatic 204, 3)) ∧ (decode cX12_dense 142 = .ok (.i2l, 1))))) ∧ ((((decode cX12_dense 143 = .ok (.lmul, 1)) ∧ (decode cX12_dense 144 = .ok (.lsub, 1))) ∧ ((decode cX12_dense 145 = .ok (.lstore 6, 2)) ∧ (decode cX12_dense 147 = .ok (.iload_n 2, 1)))) ∧ (((decode cX12_dense 148 = .ok (.ifCond .eq 29, 3)) ∧ (decode cX12_dense 151 = .ok (.lload 6, 2))) ∧ ((decode cX12_dense 153 = .ok (.lconst 0, 1)) ∧ (decode cX12_dense 154 = .ok (.lcmp, 1))))) := by first | decide +kernel | ((repeat' apply And.intro) <;> decide +kernel)
theorem dX12_dense_130 : decode cX12_dense 130 = .ok (.invokestatic 204, 3) := dB_3_3_1.1.1.1.1
theorem dX12_dense_133 : decode cX12_dense 133 = .ok (.i2l, 1) := dB_3_3_1.1.1.1.2
theorem dX12_dense_134 : decode cX12_dense 134 = .ok (.lmul, 1) := dB_3_3_1.1.1.2.1
theorem dX12_dense_135 : decode cX12_dense 135 = .ok (.iload_n 3, 1) := dB_3_3_1.1.1.2.2
theorem dX12_dense_136 : decode cX12_dense 136 = .ok (.i2l, 1) := dB_3_3_1.1.2.1.1
theorem dX12_dense_137 : decode cX12_dense 137 = .ok (.iload 4, 2) := dB_3_3_1.1.2.1.2
theorem dX12_dense_139 : decode cX12_dense 139 = .ok (.invokestatic 204, 3) := dB_3_3_1.1.2.2.1
theorem dX12_dense_142 : decode cX12_dense 142 = .ok (.i2l, 1) := dB_3_3_1.1.2.2.2
theorem dX12_dense_143 : decode cX12_dense 143 = .ok (.lmul, 1) := dB_3_3_1.2.1.1.1
theorem dX12_dense_144 : decode cX12_dense 144 = .ok (.lsub, 1) := dB_3_3_1.2.1.1.2
theorem dX12_dense_145 : decode cX12_dense 145 = .ok (.lstore 6, 2) := dB_3_3_1.2.1.2.1
theorem dX12_dense_147 : decode cX12_dense 147 = .ok (.iload_n 2, 1) := dB_3_3_1.2.1.2.2
theorem dX12_dense_148 : decode cX12_dense 148 = .ok (.ifCond .eq 29, 3) := dB_3_3_1.2.2.1.1
theorem dX12_dense_151 : decode cX12_dense 151 = .ok (.lload 6, 2) := dB_3_3_1.2.2.1.2
theorem dX12_dense_153 : decode cX12_dense 153 = .ok (.lconst 0, 1) := dB_3_3_1.2.2.2.1
theorem dX12_dense_154 : decode cX12_dense 154 = .ok (.lcmp, 1) := dB_3_3_1.2.2.2.2
theorem dB_3_3_2 : ((((decode cX12_dense 155 = .ok (.ifCond .gt 22, 3)) ∧ (decode cX12_dense 158 = .ok (.lload 6, 2))) ∧ ((decode cX12_dense 160 = .ok (.lconst 0, 1)) ∧ (decode cX12_dense 161 = .ok (.lcmp, 1)))) ∧ (((decode cX12_dense 162 = .ok (.ifCond .ne 21, 3)) ∧ (decode cX12_dense 165 = .ok (.iload 4, 2))) ∧ ((decode cX12_dense 167 = .ok (.invokestatic 204, 3)) ∧ (decode cX12_dense 170 = .ok (.iload_n 2, 1))))) ∧ ((((decode cX12_dense 171 = .ok (.invokestatic 204, 3)) ∧ (decode cX12_dense 174 = .ok (.if_icmp .le 9, 3))) ∧ ((decode cX12_dense 177 = .ok (.iload 4, 2)) ∧ (decode cX12_dense 179 = .ok (.istore_n 2, 1)))) ∧ (((decode cX12_dense 180 = .ok (.iload 5, 2)) ∧ (decode cX12_dense 182 = .ok (.istore_n 3, 1))) ∧ ((decode cX12_dense 183 = .ok (.iinc 4 1, 3)) ∧ (decode cX12_dense 186 = .ok (.goto (-150), 3))))) := by first | decide +kernel | ((repeat' apply And.intro) <;> decide +kernel)
theorem dX12_dense_155 : decode cX12_dense 155 = .ok (.ifCond .gt 22, 3) := dB_3_3_2.1.1.1.1
theorem dX12_dense_158 : decode cX12_dense 158 = .ok (.lload 6, 2) := dB_3_3_2.1.1.1.2
theorem dX12_dense_160 : decode cX12_dense 160 = .ok (.lconst 0, 1) := dB_3_3_2.1.1.2.1
theorem dX12_dense_161 : decode cX12_dense 161 = .ok (.lcmp, 1) := dB_3_3_2.1.1.2.2
theorem dX12_dense_162 : decode cX12_dense 162 = .ok (.ifCond .ne 21, 3) := dB_3_3_2.1.2.1.1
theorem dX12_dense_165 : decode cX12_dense 165 = .ok (.iload 4, 2) := dB_3_3_2.1.2.1.2
theorem dX12_dense_167 : decode cX12_dense 167 = .ok (.invokestatic 204, 3) := dB_3_3_2.1.2.2.1
theorem dX12_dense_170 : decode cX12_dense 170 = .ok (.iload_n 2, 1) := dB_3_3_2.1.2.2.2
theorem dX12_dense_171 : decode cX12_dense 171 = .ok (.invokestatic 204, 3) := dB_3_3_2.2.1.1.1
theorem dX12_dense_174 : decode cX12_dense 174 = .ok (.if_icmp .le 9, 3) := dB_3_3_2.2.1.1.2
theorem dX12_dense_177 : decode cX12_dense 177 = .ok (.iload 4, 2) := dB_3_3_2.2.1.2.1
theorem dX12_dense_179 : decode cX12_dense 179 = .ok (.istore_n 2, 1) := dB_3_3_2.2.1.2.2
theorem dX12_dense_180 : decode cX12_dense 180 = .ok (.iload 5, 2) := dB_3_3_2.2.2.1.1
theorem dX12_dense_182 : decode cX12_dense 182 = .ok (.istore_n 3, 1) := dB_3_3_2.2.2.1.2
theorem dX12_dense_183 : decode cX12_dense 183 = .ok (.iinc 4 1, 3) := dB_3_3_2.2.2.2.1
theorem dX12_dense_186 : decode cX12_dense 186 = .ok (.goto (-150), 3) := dB_3_3_2.2.2.2.2
theorem dB_3_3_3 : ((((decode cX12_dense 189 = .ok (.iload_n 1, 1)) ∧ (decode cX12_dense 190 = .ok (.ifCond .ne 7, 3))) ∧ ((decode cX12_dense 193 = .ok (.iload_n 2, 1)) ∧ (decode cX12_dense 194 = .ok (.goto 16, 3)))) ∧ (((decode cX12_dense 197 = .ok (.iload_n 1, 1)) ∧ (decode cX12_dense 198 = .ok (.iconst 1, 1))) ∧ ((decode cX12_dense 199 = .ok (.if_icmp .ne 7, 3)) ∧ (decode cX12_dense 202 = .ok (.iload_n 3, 1))))) ∧ ((((decode cX12_dense 203 = .ok (.goto 7, 3)) ∧ (decode cX12_dense 206 = .ok (.iload_n 2, 1))) ∧ ((decode cX12_dense 207 = .ok (.invokestatic 204, 3)) ∧ (decode cX12_dense 210 = .ok (.ireturn, 1)))) ∧ (((decode cX12_no 0 = .ok (.aload_n 0, 1)) ∧ (decode cX12_no 1 = .ok (.iload_n 1, 1))) ∧ ((decode cX12_no 2 = .ok (.putfield 240, 3)) ∧ (decode cX12_no 5 = .ok (.iload_n 1, 1))))) := by first | decide +kernel | ((repeat' apply And.intro) <;> decide +kernel)
theorem dX12_dense_189 : decode cX12_dense 189 = .ok (.iload_n 1, 1) := dB_3_3_3.1.1.1.1
theorem dX12_dense_190 : decode cX12_dense 190 = .ok (.ifCond .ne 7, 3) := dB_3_3_3.1.1.1.2
theorem dX12_dense_193 : decode cX12_dense 193 = .ok (.iload_n 2, 1) := dB_3_3_3.1.1.2.1
theorem dX12_dense_194 : decode cX12_dense 194 = .ok (.goto 16, 3) := dB_3_3_3.1.1.2.2
theorem dX12_dense_197 : decode cX12_dense 197 = .ok (.iload_n 1, 1) := dB_3_3_3.1.2.1.1
theorem dX12_dense_198 : decode cX12_dense 198 = .ok (.iconst 1, 1) := dB_3_3_3.1.2.1.2
theorem dX12_dense_199 : decode cX12_dense 199 = .ok (.if_icmp .ne 7, 3) := dB_3_3_3.1.2.2.1
theorem dX12_dense_202 : decode cX12_dense 202 = .ok (.iload_n 3, 1) := dB_3_3_3.1.2.2.2
theorem dX12_dense_203 : decode cX12_dense 203 = .ok (.goto 7, 3) := dB_3_3_3.2.1.1.1
theorem dX12_dense_206 : decode cX12_dense 206 = .ok (.iload_n 2, 1) := dB_3_3_3.2.1.1.2
theorem dX12_dense_207 : decode cX12_dense 207 = .ok (.invokestatic 204, 3) := dB_3_3_3.2.1.2.1
theorem dX12_dense_210 : decode cX12_dense 210 = .ok (.ireturn, 1) := dB_3_3_3.2.1.2.2
theorem dX12_no_0 : decode cX12_no 0 = .ok (.aload_n 0, 1) := dB_3_3_3.2.2.1.1
theorem dX12_no_1 : decode cX12_no 1 = .ok (.iload_n 1, 1) := dB_3_3_3.2.2.1.2
theorem dX12_no_2 : decode cX12_no 2 = .ok (.putfield 240, 3) := dB_3_3_3.2.2.2.1
theorem dX12_no_5 : decode cX12_no 5 = .ok (.iload_n 1, 1) := dB_3_3_3.2.2.2.2
theorem dB_3_3_4 : ((((decode cX12_no 6 = .ok (.ireturn, 1)) ∧ (decode cX12_map 0 = .ok (.aload_n 0, 1))) ∧ ((decode cX12_map 1 = .ok (.iconst 0, 1)) ∧ (decode cX12_map 2 = .ok (.putfield 85, 3)))) ∧ (((decode cX12_map 5 = .ok (.aload_n 0, 1)) ∧ (decode cX12_map 6 = .ok (.iconst 0, 1))) ∧ ((decode cX12_map 7 = .ok (.putfield 240, 3)) ∧ (decode cX12_map 10 = .ok (.iload_n 1, 1))))) ∧ ((((decode cX12_map 11 = .ok (.i2l, 1)) ∧ (decode cX12_map 12 = .ok (.lconst 0, 1))) ∧ ((decode cX12_map 13 = .ok (.ldc2_w 243, 3)) ∧ (decode cX12_map 16 = .ok (.invokestatic 91, 3)))) ∧ (((decode cX12_map 19 = .ok (.ifCond .eq 21, 3)) ∧ (decode cX12_map 22 = .ok (.iload_n 2, 1))) ∧ ((decode cX12_map 23 = .ok (.i2l, 1)) ∧ (decode cX12_map 24 = .ok (.lconst 0, 1))))) := by first | decide +kernel | ((repeat' apply And.intro) <;> decide +kernel)
theorem dX12_no_6 : decode cX12_no 6 = .ok (.ireturn, 1) := dB_3_3_4.1.1.1.1
theorem dX12_map_0 : decode cX12_map 0 = .ok (.aload_n 0, 1) := dB_3_3_4.1.1.1.2
theorem dX12_map_1 : decode cX12_map 1 = .ok (.iconst 0, 1) := dB_3_3_4.1.1.2.1
theorem dX12_map_2 : decode cX12_map 2 = .ok (.putfield 85, 3) := dB_3_3_4.1.1.2.2
theorem dX12_map_5 : decode cX12_map 5 = .ok (.aload_n 0, 1) := dB_3_3_4.1.2.1.1
theorem dX12_map_6 : decode cX12_map 6 = .ok (.iconst 0, 1) := dB_3_3_4.1.2.1.2
theorem dX12_map_7 : decode cX12_map 7 = .ok (.putfield 240, 3) := dB_3_3_4.1.2.2.1
theorem dX12_map_10 : decode cX12_map 10 = .ok (.iload_n 1, 1) := dB_3_3_4.1.2.2.2
theorem dX12_map_11 : decode cX12_map 11 = .ok (.i2l, 1) := dB_3_3_4.2.1.1.1
theorem dX12_map_12 : decode cX12_map 12 = .ok (.lconst 0, 1) := dB_3_3_4.2.1.1.2
theorem dX12_map_13 : decode cX12_map 13 = .ok (.ldc2_w 243, 3) := dB_3_3_4.2.1.2.1
theorem dX12_map_16 : decode cX12_map 16 = .ok (.invokestatic 91, 3) := dB_3_3_4.2.1.2.2
theorem dX12_map_19 : decode cX12_map 19 = .ok (.ifCond .eq 21, 3) := dB_3_3_4.2.2.1.1
theorem dX12_map_22 : decode cX12_map 22 = .ok (.iload_n 2, 1) := dB_3_3_4.2.2.1.2
theorem dX12_map_23 : decode cX12_map 23 = .ok (.i2l, 1) := dB_3_3_4.2.2.2.1
theorem dX12_map_24 : decode cX12_map 24 = .ok (.lconst 0, 1) := dB_3_3_4.2.2.2.2
theorem dB_3_3_5 : ((((decode cX12_map 25 = .ok (.ldc2_w 149, 3)) ∧ (decode cX12_map 28 = .ok (.invokestatic 91, 3))) ∧ ((decode cX12_map 31 = .ok (.ifCond .eq 9, 3)) ∧ (decode cX12_map 34 = .ok (.iload_n 3, 1)))) ∧ (((decode cX12_map 35 = .ok (.bipush 6, 2)) ∧ (decode cX12_map 37 = .ok (.if_icmp .le 9, 3))) ∧ ((decode cX12_map 40 = .ok (.aload_n 0, 1)) ∧ (decode cX12_map 41 = .ok (.iconst (-1), 1))))) ∧ ((((decode cX12_map 42 = .ok (.invokevirtual 245, 3)) ∧ (decode cX12_map 45 = .ok (.ireturn, 1))) ∧ ((decode cX12_map 46 = .ok (.iload_n 3, 1)) ∧ (decode cX12_map 47 = .ok (.ifCond .ge 10, 3)))) ∧ (((decode cX12_map 50 = .ok (.aload_n 0, 1)) ∧ (decode cX12_map 51 = .ok (.bipush (-15), 2))) ∧ ((decode cX12_map 53 = .ok (.invokevirtual 245, 3)) ∧ (decode cX12_map 56 = .ok (.ireturn, 1))))) := by first | decide +kernel | ((repeat' apply And.intro) <;> decide +kernel)
theorem dX12_map_25 : decode cX12_map 25 = .ok (.ldc2_w 149, 3) := dB_3_3_5.1.1.1.1
theorem dX12_map_28 : decode cX12_map 28 = .ok (.invokestatic 91, 3) := dB_3_3_5.1.1.1.2
theorem dX12_map_31 : decode cX12_map 31 = .ok (.ifCond .eq 9, 3) := dB_3_3_5.1.1.2.1
theorem dX12_map_34 : decode cX12_map 34 = .ok (.iload_n 3, 1) := dB_3_3_5.1.1.2.2
theorem dX12_map_35 : decode cX12_map 35 = .ok (.bipush 6, 2) := dB_3_3_5.1.2.1.1
theorem dX12_map_37 : decode cX12_map 37 = .ok (.if_icmp .le 9, 3) := dB_3_3_5.1.2.1.2
theorem dX12_map_40 : decode cX12_map 40 = .ok (.aload_n 0, 1) := dB_3_3_5.1.2.2.1
theorem dX12_map_41 : decode cX12_map 41 = .ok (.iconst (-1), 1) := dB_3_3_5.1.2.2.2
theorem dX12_map_42 : decode cX12_map 42 = .ok (.invokevirtual 245, 3) := dB_3_3_5.2.1.1.1
theorem dX12_map_45 : decode cX12_map 45 = .ok (.ireturn, 1) := dB_3_3_5.2.1.1.2
theorem dX12_map_46 : decode cX12_map 46 = .ok (.iload_n 3, 1) := dB_3_3_5.2.1.2.1
theorem dX12_map_47 : decode cX12_map 47 = .ok (.ifCond .ge 10, 3) := dB_3_3_5.2.1.2.2
theorem dX12_map_50 : decode cX12_map 50 = .ok (.aload_n 0, 1) := dB_3_3_5.2.2.1.1
theorem dX12_map_51 : decode cX12_map 51 = .ok (.bipush (-15), 2) := dB_3_3_5.2.2.1.2
theorem dX12_map_53 : decode cX12_map 53 = .ok (.invokevirtual 245, 3) := dB_3_3_5.2.2.2.1
theorem dX12_map_56 : decode cX12_map 56 = .ok (.ireturn, 1) := dB_3_3_5.2.2.2.2
theorem dB_3_3_6 : ((((decode cX12_map 57 = .ok (.aload_n 0, 1)) ∧ (decode cX12_map 58 = .ok (.getfield 38, 3))) ∧ ((decode cX12_map 61 = .ok (.iload_n 1, 1)) ∧ (decode cX12_map 62 = .ok (.iconst 1, 1)))) ∧ (((decode cX12_map 63 = .ok (.bastore, 1)) ∧ (decode cX12_map 64 = .ok (.aload_n 0, 1))) ∧ ((decode cX12_map 65 = .ok (.getfield 41, 3)) ∧ (decode cX12_map 68 = .ok (.iload_n 1, 1))))) ∧ ((((decode cX12_map 69 = .ok (.iload_n 2, 1)) ∧ (decode cX12_map 70 = .ok (.iastore, 1))) ∧ ((decode cX12_map 71 = .ok (.aload_n 0, 1)) ∧ (decode cX12_map 72 = .ok (.getfield 44, 3)))) ∧ (((decode cX12_map 75 = .ok (.iload_n 1, 1)) ∧ (decode cX12_map 76 = .ok (.iload_n 3, 1))) ∧ ((decode cX12_map 77 = .ok (.iastore, 1)) ∧ (decode cX12_map 78 = .ok (.iconst 0, 1))))) := by first | decide +kernel | ((repeat' apply And.intro) <;> decide +kernel)
theorem dX12_map_57 : decode cX12_map 57 = .ok (.aload_n 0, 1) := dB_3_3_6.1.1.1.1
theorem dX12_map_58 : decode cX12_map 58 = .ok (.getfield 38, 3) := dB_3_3_6.1.1.1.2
theorem dX12_map_61 : decode cX12_map 61 = .ok (.iload_n 1, 1) := dB_3_3_6.1.1.2.1
theorem dX12_map_62 : decode cX12_map 62 = .ok (.iconst 1, 1) := dB_3_3_6.1.1.2.2
theorem dX12_map_63 : decode cX12_map 63 = .ok (.bastore, 1) := dB_3_3_6.1.2.1.1
theorem dX12_map_64 : decode cX12_map 64 = .ok (.aload_n 0, 1) := dB_3_3_6.1.2.1.2
theorem dX12_map_65 : decode cX12_map 65 = .ok (.getfield 41, 3) := dB_3_3_6.1.2.2.1
theorem dX12_map_68 : decode cX12_map 68 = .ok (.iload_n 1, 1) := dB_3_3_6.1.2.2.2
theorem dX12_map_69 : decode cX12_map 69 = .ok (.iload_n 2, 1) := dB_3_3_6.2.1.1.1
theorem dX12_map_70 : decode cX12_map 70 = .ok (.iastore, 1) := dB_3_3_6.2.1.1.2
theorem dX12_map_71 : decode cX12_map 71 = .ok (.aload_n 0, 1) := dB_3_3_6.2.1.2.1
theorem dX12_map_72 : decode cX12_map 72 = .ok (.getfield 44, 3) := dB_3_3_6.2.1.2.2
theorem dX12_map_75 : decode cX12_map 75 = .ok (.iload_n 1, 1) := dB_3_3_6.2.2.1.1
theorem dX12_map_76 : decode cX12_map 76 = .ok (.iload_n 3, 1) := dB_3_3_6.2.2.1.2
theorem dX12_map_77 : decode cX12_map 77 = .ok (.iastore, 1) := dB_3_3_6.2.2.2.1
theorem dX12_map_78 : decode cX12_map 78 = .ok (.iconst 0, 1) := dB_3_3_6.2.2.2.2
theorem dB_3_3_7 : ((((decode cX12_map 79 = .ok (.istore 4, 2)) ∧ (decode cX12_map 81 = .ok (.iload 4, 2))) ∧ ((decode cX12_map 83 = .ok (.bipush 6, 2)) ∧ (decode cX12_map 85 = .ok (.if_icmp .ge 23, 3)))) ∧ (((decode cX12_map 88 = .ok (.aload_n 0, 1)) ∧ (decode cX12_map 89 = .ok (.getfield 47, 3))) ∧ ((decode cX12_map 92 = .ok (.bipush 6, 2)) ∧ (decode cX12_map 94 = .ok (.iload_n 1, 1))))) ∧ ((((decode cX12_map 95 = .ok (.imul, 1)) ∧ (decode cX12_map 96 = .ok (.iload 4, 2))) ∧ ((decode cX12_map 98 = .ok (.iadd, 1)) ∧ (decode cX12_map 99 = .ok (.bipush (-9), 2)))) ∧ (((decode cX12_map 101 = .ok (.iastore, 1)) ∧ (decode cX12_map 102 = .ok (.iinc 4 1, 3))) ∧ ((decode cX12_map 105 = .ok (.goto (-24), 3)) ∧ (decode cX12_map 108 = .ok (.iconst 1, 1))))) := by first | decide +kernel | ((repeat' apply And.intro) <;> decide +kernel)
theorem dX12_map_79 : decode cX12_map 79 = .ok (.istore 4, 2) := dB_3_3_7.1.1.1.1
theorem dX12_map_81 : decode cX12_map 81 = .ok (.iload 4, 2) := dB_3_3_7.1.1.1.2
theorem dX12_map_83 : decode cX12_map 83 = .ok (.bipush 6, 2) := dB_3_3_7.1.1.2.1
theorem dX12_map_85 : decode cX12_map 85 = .ok (.if_icmp .ge 23, 3) := dB_3_3_7.1.1.2.2
theorem dX12_map_88 : decode cX12_map 88 = .ok (.aload_n 0, 1) := dB_3_3_7.1.2.1.1
theorem dX12_map_89 : decode cX12_map 89 = .ok (.getfield 47, 3) := dB_3_3_7.1.2.1.2
theorem dX12_map_92 : decode cX12_map 92 = .ok (.bipush 6, 2) := dB_3_3_7.1.2.2.1
theorem dX12_map_94 : decode cX12_map 94 = .ok (.iload_n 1, 1) := dB_3_3_7.1.2.2.2
theorem dX12_map_95 : decode cX12_map 95 = .ok (.imul, 1) := dB_3_3_7.2.1.1.1
theorem dX12_map_96 : decode cX12_map 96 = .ok (.iload 4, 2) := dB_3_3_7.2.1.1.2
theorem dX12_map_98 : decode cX12_map 98 = .ok (.iadd, 1) := dB_3_3_7.2.1.2.1
theorem dX12_map_99 : decode cX12_map 99 = .ok (.bipush (-9), 2) := dB_3_3_7.2.1.2.2
theorem dX12_map_101 : decode cX12_map 101 = .ok (.iastore, 1) := dB_3_3_7.2.2.1.1
theorem dX12_map_102 : decode cX12_map 102 = .ok (.iinc 4 1, 3) := dB_3_3_7.2.2.1.2
theorem dX12_map_105 : decode cX12_map 105 = .ok (.goto (-24), 3) := dB_3_3_7.2.2.2.1
theorem dX12_map_108 : decode cX12_map 108 = .ok (.iconst 1, 1) := dB_3_3_7.2.2.2.2
theorem dB_3_3_8 : ((((decode cX12_map 109 = .ok (.ireturn, 1)) ∧ (decode cX12_row 0 = .ok (.aload_n 0, 1))) ∧ ((decode cX12_row 1 = .ok (.iconst 0, 1)) ∧ (decode cX12_row 2 = .ok (.putfield 85, 3)))) ∧ (((decode cX12_row 5 = .ok (.aload_n 0, 1)) ∧ (decode cX12_row 6 = .ok (.iconst 0, 1))) ∧ ((decode cX12_row 7 = .ok (.putfield 240, 3)) ∧ (decode cX12_row 10 = .ok (.iload_n 1, 1))))) ∧ ((((decode cX12_row 11 = .ok (.i2l, 1)) ∧ (decode cX12_row 12 = .ok (.lconst 0, 1))) ∧ ((decode cX12_row 13 = .ok (.ldc2_w 243, 3)) ∧ (decode cX12_row 16 = .ok (.invokestatic 91, 3)))) ∧ (((decode cX12_row 19 = .ok (.ifCond .eq 8, 3)) ∧ (decode cX12_row 22 = .ok (.iload_n 3, 1))) ∧ ((decode cX12_row 23 = .ok (.iconst 5, 1)) ∧ (decode cX12_row 24 = .ok (.if_icmp .le 9, 3))))) := by first | decide +kernel | ((repeat' apply And.intro) <;> decide +kernel)
theorem dX12_map_109 : decode cX12_map 109 = .ok (.ireturn, 1) := dB_3_3_8.1.1.1.1
theorem dX12_row_0 : decode cX12_row 0 = .ok (.aload_n 0, 1) := dB_3_3_8.1.1.1.2
theorem dX12_row_1 : decode cX12_row 1 = .ok (.iconst 0, 1) := dB_3_3_8.1.1.2.1
theorem dX12_row_2 : decode cX12_row 2 = .ok (.putfield 85, 3) := dB_3_3_8.1.1.2.2
theorem dX12_row_5 : decode cX12_row 5 = .ok (.aload_n 0, 1) := dB_3_3_8.1.2.1.1
theorem dX12_row_6 : decode cX12_row 6 = .ok (.iconst 0, 1) := dB_3_3_8.1.2.1.2
theorem dX12_row_7 : decode cX12_row 7 = .ok (.putfield 240, 3) := dB_3_3_8.1.2.2.1
theorem dX12_row_10 : decode cX12_row 10 = .ok (.iload_n 1, 1) := dB_3_3_8.1.2.2.2
theorem dX12_row_11 : decode cX12_row 11 = .ok (.i2l, 1) := dB_3_3_8.2.1.1.1
theorem dX12_row_12 : decode cX12_row 12 = .ok (.lconst 0, 1) := dB_3_3_8.2.1.1.2
theorem dX12_row_13 : decode cX12_row 13 = .ok (.ldc2_w 243, 3) := dB_3_3_8.2.1.2.1
theorem dX12_row_16 : decode cX12_row 16 = .ok (.invokestatic 91, 3) := dB_3_3_8.2.1.2.2
theorem dX12_row_19 : decode cX12_row 19 = .ok (.ifCond .eq 8, 3) := dB_3_3_8.2.2.1.1
theorem dX12_row_22 : decode cX12_row 22 = .ok (.iload_n 3, 1) := dB_3_3_8.2.2.1.2
theorem dX12_row_23 : decode cX12_row 23 = .ok (.iconst 5, 1) := dB_3_3_8.2.2.2.1
theorem dX12_row_24 : decode cX12_row 24 = .ok (.if_icmp .le 9, 3) := dB_3_3_8.2.2.2.2
theorem dB_3_3_9 : ((((decode cX12_row 27 = .ok (.aload_n 0, 1)) ∧ (decode cX12_row 28 = .ok (.iconst (-1), 1))) ∧ ((decode cX12_row 29 = .ok (.invokevirtual 245, 3)) ∧ (decode cX12_row 32 = .ok (.ireturn, 1)))) ∧ (((decode cX12_row 33 = .ok (.aload_n 0, 1)) ∧ (decode cX12_row 34 = .ok (.getfield 38, 3))) ∧ ((decode cX12_row 37 = .ok (.iload_n 1, 1)) ∧ (decode cX12_row 38 = .ok (.baload, 1))))) ∧ ((((decode cX12_row 39 = .ok (.ifCond .ne 10, 3)) ∧ (decode cX12_row 42 = .ok (.aload_n 0, 1))) ∧ ((decode cX12_row 43 = .ok (.bipush (-11), 2)) ∧ (decode cX12_row 45 = .ok (.invokevirtual 245, 3)))) ∧ (((decode cX12_row 48 = .ok (.ireturn, 1)) ∧ (decode cX12_row 49 = .ok (.iload_n 2, 1))) ∧ ((decode cX12_row 50 = .ok (.i2l, 1)) ∧ (decode cX12_row 51 = .ok (.lconst 0, 1))))) := by first | decide +kernel | ((repeat' apply And.intro) <;> decide +kernel)
theorem dX12_row_27 : decode cX12_row 27 = .ok (.aload_n 0, 1) := dB_3_3_9.1.1.1.1
theorem dX12_row_28 : decode cX12_row 28 = .ok (.iconst (-1), 1) := dB_3_3_9.1.1.1.2
theorem dX12_row_29 : decode cX12_row 29 = .ok (.invokevirtual 245, 3) := dB_3_3_9.1.1.2.1
theorem dX12_row_32 : decode cX12_row 32 = .ok (.ireturn, 1) := dB_3_3_9.1.1.2.2
theorem dX12_row_33 : decode cX12_row 33 = .ok (.aload_n 0, 1) := dB_3_3_9.1.2.1.1
theorem dX12_row_34 : decode cX12_row 34 = .ok (.getfield 38, 3) := dB_3_3_9.1.2.1.2
theorem dX12_row_37 : decode cX12_row 37 = .ok (.iload_n 1, 1) := dB_3_3_9.1.2.2.1
theorem dX12_row_38 : decode cX12_row 38 = .ok (.baload, 1) := dB_3_3_9.1.2.2.2
theorem dX12_row_39 : decode cX12_row 39 = .ok (.ifCond .ne 10, 3) := dB_3_3_9.2.1.1.1
theorem dX12_row_42 : decode cX12_row 42 = .ok (.aload_n 0, 1) := dB_3_3_9.2.1.1.2
theorem dX12_row_43 : decode cX12_row 43 = .ok (.bipush (-11), 2) := dB_3_3_9.2.1.2.1
theorem dX12_row_45 : decode cX12_row 45 = .ok (.invokevirtual 245, 3) := dB_3_3_9.2.1.2.2
theorem dX12_row_48 : decode cX12_row 48 = .ok (.ireturn, 1) := dB_3_3_9.2.2.1.1
theorem dX12_row_49 : decode cX12_row 49 = .ok (.iload_n 2, 1) := dB_3_3_9.2.2.1.2
theorem dX12_row_50 : decode cX12_row 50 = .ok (.i2l, 1) := dB_3_3_9.2.2.2.1
theorem dX12_row_51 : decode cX12_row 51 = .ok (.lconst 0, 1) := dB_3_3_9.2.2.2.2
theorem dB_3_3_10 : ((((decode cX12_row 52 = .ok (.aload_n 0, 1)) ∧ (decode cX12_row 53 = .ok (.getfield 44, 3))) ∧ ((decode cX12_row 56 = .ok (.iload_n 1, 1)) ∧ (decode cX12_row 57 = .ok (.iaload, 1)))) ∧ (((decode cX12_row 58 = .ok (.iconst 1, 1)) ∧ (decode cX12_row 59 = .ok (.isub, 1))) ∧ ((decode cX12_row 60 = .ok (.i2l, 1)) ∧ (decode cX12_row 61 = .ok (.invokestatic 91, 3))))) ∧ ((((decode cX12_row 64 = .ok (.ifCond .ne 10, 3)) ∧ (decode cX12_row 67 = .ok (.aload_n 0, 1))) ∧ ((decode cX12_row 68 = .ok (.bipush (-12), 2)) ∧ (decode cX12_row 70 = .ok (.invokevirtual 245, 3)))) ∧ (((decode cX12_row 73 = .ok (.ireturn, 1)) ∧ (decode cX12_row 74 = .ok (.iload_n 3, 1))) ∧ ((decode cX12_row 75 = .ok (.ifCond .ge 10, 3)) ∧ (decode cX12_row 78 = .ok (.aload_n 0, 1))))) := by first | decide +kernel | ((repeat' apply And.intro) <;> decide +kernel)
theorem dX12_row_52 : decode cX12_row 52 = .ok (.aload_n 0, 1) := dB_3_3_10.1.1.1.1
theorem dX12_row_53 : decode cX12_row 53 = .ok (.getfield 44, 3) := dB_3_3_10.1.1.1.2
theorem dX12_row_56 : decode cX12_row 56 = .ok (.iload_n 1, 1) := dB_3_3_10.1.1.2.1
theorem dX12_row_57 : decode cX12_row 57 = .ok (.iaload, 1) := dB_3_3_10.1.1.2.2
theorem dX12_row_58 : decode cX12_row 58 = .ok (.iconst 1, 1) := dB_3_3_10.1.2.1.1
theorem dX12_row_59 : decode cX12_row 59 = .ok (.isub, 1) := dB_3_3_10.1.2.1.2
theorem dX12_row_60 : decode cX12_row 60 = .ok (.i2l, 1) := dB_3_3_10.1.2.2.1
theorem dX12_row_61 : decode cX12_row 61 = .ok (.invokestatic 91, 3) := dB_3_3_10.1.2.2.2
theorem dX12_row_64 : decode cX12_row 64 = .ok (.ifCond .ne 10, 3) := dB_3_3_10.2.1.1.1
theorem dX12_row_67 : decode cX12_row 67 = .ok (.aload_n 0, 1) := dB_3_3_10.2.1.1.2
theorem dX12_row_68 : decode cX12_row 68 = .ok (.bipush (-12), 2) := dB_3_3_10.2.1.2.1
theorem dX12_row_70 : decode cX12_row 70 = .ok (.invokevirtual 245, 3) := dB_3_3_10.2.1.2.2
theorem dX12_row_73 : decode cX12_row 73 = .ok (.ireturn, 1) := dB_3_3_10.2.2.1.1
theorem dX12_row_74 : decode cX12_row 74 = .ok (.iload_n 3, 1) := dB_3_3_10.2.2.1.2
theorem dX12_row_75 : decode cX12_row 75 = .ok (.ifCond .ge 10, 3) := dB_3_3_10.2.2.2.1
theorem dX12_row_78 : decode cX12_row 78 = .ok (.aload_n 0, 1) := dB_3_3_10.2.2.2.2
theorem dB_3_3_11 : ((((decode cX12_row 79 = .ok (.bipush (-15), 2)) ∧ (decode cX12_row 81 = .ok (.invokevirtual 245, 3))) ∧ ((decode cX12_row 84 = .ok (.ireturn, 1)) ∧ (decode cX12_row 85 = .ok (.aload_n 0, 1)))) ∧ (((decode cX12_row 86 = .ok (.getfield 47, 3)) ∧ (decode cX12_row 89 = .ok (.bipush 6, 2))) ∧ ((decode cX12_row 91 = .ok (.iload_n 1, 1)) ∧ (decode cX12_row 92 = .ok (.imul, 1))))) ∧ ((((decode cX12_row 93 = .ok (.iload_n 2, 1)) ∧ (decode cX12_row 94 = .ok (.iadd, 1))) ∧ ((decode cX12_row 95 = .ok (.iload_n 3, 1)) ∧ (decode cX12_row 96 = .ok (.iastore, 1)))) ∧ (((decode cX12_row 97 = .ok (.iconst 0, 1)) ∧ (decode cX12_row 98 = .ok (.istore 4, 2))) ∧ ((decode cX12_row 100 = .ok (.iload 4, 2)) ∧ (decode cX12_row 102 = .ok (.iconst 5, 1))))) := by first | decide +kernel | ((repeat' apply And.intro) <;> decide +kernel)
theorem dX12_row_79 : decode cX12_row 79 = .ok (.bipush (-15), 2) := dB_3_3_11.1.1.1.1
theorem dX12_row_81 : decode cX12_row 81 = .ok (.invokevirtual 245, 3) := dB_3_3_11.1.1.1.2
theorem dX12_row_84 : decode cX12_row 84 = .ok (.ireturn, 1) := dB_3_3_11.1.1.2.1
theorem dX12_row_85 : decode cX12_row 85 = .ok (.aload_n 0, 1) := dB_3_3_11.1.1.2.2
theorem dX12_row_86 : decode cX12_row 86 = .ok (.getfield 47, 3) := dB_3_3_11.1.2.1.1
theorem dX12_row_89 : decode cX12_row 89 = .ok (.bipush 6, 2) := dB_3_3_11.1.2.1.2
theorem dX12_row_91 : decode cX12_row 91 = .ok (.iload_n 1, 1) := dB_3_3_11.1.2.2.1
theorem dX12_row_92 : decode cX12_row 92 = .ok (.imul, 1) := dB_3_3_11.1.2.2.2
theorem dX12_row_93 : decode cX12_row 93 = .ok (.iload_n 2, 1) := dB_3_3_11.2.1.1.1
theorem dX12_row_94 : decode cX12_row 94 = .ok (.iadd, 1) := dB_3_3_11.2.1.1.2
theorem dX12_row_95 : decode cX12_row 95 = .ok (.iload_n 3, 1) := dB_3_3_11.2.1.2.1
theorem dX12_row_96 : decode cX12_row 96 = .ok (.iastore, 1) := dB_3_3_11.2.1.2.2
theorem dX12_row_97 : decode cX12_row 97 = .ok (.iconst 0, 1) := dB_3_3_11.2.2.1.1
theorem dX12_row_98 : decode cX12_row 98 = .ok (.istore 4, 2) := dB_3_3_11.2.2.1.2
theorem dX12_row_100 : decode cX12_row 100 = .ok (.iload 4, 2) := dB_3_3_11.2.2.2.1
theorem dX12_row_102 : decode cX12_row 102 = .ok (.iconst 5, 1) := dB_3_3_11.2.2.2.2
theorem dB_3_3_12 : ((((decode cX12_row 103 = .ok (.if_icmp .ge 26, 3)) ∧ (decode cX12_row 106 = .ok (.aload_n 0, 1))) ∧ ((decode cX12_row 107 = .ok (.getfield 50, 3)) ∧ (decode cX12_row 110 = .ok (.bipush 30, 2)))) ∧ (((decode cX12_row 112 = .ok (.iload_n 1, 1)) ∧ (decode cX12_row 113 = .ok (.imul, 1))) ∧ ((decode cX12_row 114 = .ok (.iconst 5, 1)) ∧ (decode cX12_row 115 = .ok (.iload_n 2, 1))))) ∧ ((((decode cX12_row 116 = .ok (.imul, 1)) ∧ (decode cX12_row 117 = .ok (.iadd, 1))) ∧ ((decode cX12_row 118 = .ok (.iload 4, 2)) ∧ (decode cX12_row 120 = .ok (.iadd, 1)))) ∧ (((decode cX12_row 121 = .ok (.lconst 0, 1)) ∧ (decode cX12_row 122 = .ok (.lastore, 1))) ∧ ((decode cX12_row 123 = .ok (.iinc 4 1, 3)) ∧ (decode cX12_row 126 = .ok (.goto (-26), 3))))) := by first | decide +kernel | ((repeat' apply And.intro) <;> decide +kernel)
theorem dX12_row_103 : decode cX12_row 103 = .ok (.if_icmp .ge 26, 3) := dB_3_3_12.1.1.1.1
theorem dX12_row_106 : decode cX12_row 106 = .ok (.aload_n 0, 1) := dB_3_3_12.1.1.1.2
theorem dX12_row_107 : decode cX12_row 107 = .ok (.getfield 50, 3) := dB_3_3_12.1.1.2.1
theorem dX12_row_110 : decode cX12_row 110 = .ok (.bipush 30, 2) := dB_3_3_12.1.1.2.2
theorem dX12_row_112 : decode cX12_row 112 = .ok (.iload_n 1, 1) := dB_3_3_12.1.2.1.1
theorem dX12_row_113 : decode cX12_row 113 = .ok (.imul, 1) := dB_3_3_12.1.2.1.2
theorem dX12_row_114 : decode cX12_row 114 = .ok (.iconst 5, 1) := dB_3_3_12.1.2.2.1
theorem dX12_row_115 : decode cX12_row 115 = .ok (.iload_n 2, 1) := dB_3_3_12.1.2.2.2
theorem dX12_row_116 : decode cX12_row 116 = .ok (.imul, 1) := dB_3_3_12.2.1.1.1
theorem dX12_row_117 : decode cX12_row 117 = .ok (.iadd, 1) := dB_3_3_12.2.1.1.2
theorem dX12_row_118 : decode cX12_row 118 = .ok (.iload 4, 2) := dB_3_3_12.2.1.2.1
theorem dX12_row_120 : decode cX12_row 120 = .ok (.iadd, 1) := dB_3_3_12.2.1.2.2
theorem dX12_row_121 : decode cX12_row 121 = .ok (.lconst 0, 1) := dB_3_3_12.2.2.1.1
theorem dX12_row_122 : decode cX12_row 122 = .ok (.lastore, 1) := dB_3_3_12.2.2.1.2
theorem dX12_row_123 : decode cX12_row 123 = .ok (.iinc 4 1, 3) := dB_3_3_12.2.2.2.1
theorem dX12_row_126 : decode cX12_row 126 = .ok (.goto (-26), 3) := dB_3_3_12.2.2.2.2
theorem dB_3_3_13 : ((((decode cX12_row 129 = .ok (.iconst 1, 1)) ∧ (decode cX12_row 130 = .ok (.ireturn, 1))) ∧ ((decode cX12_wrong 0 = .ok (.iload_n 1, 1)) ∧ (decode cX12_wrong 1 = .ok (.i2l, 1)))) ∧ (((decode cX12_wrong 2 = .ok (.lconst 0, 1)) ∧ (decode cX12_wrong 3 = .ok (.ldc2_w 243, 3))) ∧ ((decode cX12_wrong 6 = .ok (.invokestatic 91, 3)) ∧ (decode cX12_wrong 9 = .ok (.ifCond .eq 15, 3))))) ∧ ((((decode cX12_wrong 12 = .ok (.iload_n 2, 1)) ∧ (decode cX12_wrong 13 = .ok (.i2l, 1))) ∧ ((decode cX12_wrong 14 = .ok (.lconst 0, 1)) ∧ (decode cX12_wrong 15 = .ok (.ldc2_w 149, 3)))) ∧ (((decode cX12_wrong 18 = .ok (.invokestatic 91, 3)) ∧ (decode cX12_wrong 21 = .ok (.ifCond .ne 5, 3))) ∧ ((decode cX12_wrong 24 = .ok (.iconst (-1), 1)) ∧ (decode cX12_wrong 25 = .ok (.ireturn, 1))))) := by first | decide +kernel | ((repeat' apply And.intro) <;> decide +kernel)
theorem dX12_row_129 : decode cX12_row 129 = .ok (.iconst 1, 1) := dB_3_3_13.1.1.1.1
theorem dX12_row_130 : decode cX12_row 130 = .ok (.ireturn, 1) := dB_3_3_13.1.1.1.2
theorem dX12_wrong_0 : decode cX12_wrong 0 = .ok (.iload_n 1, 1) := dB_3_3_13.1.1.2.1
theorem dX12_wrong_1 : decode cX12_wrong 1 = .ok (.i2l, 1) := dB_3_3_13.1.1.2.2
theorem dX12_wrong_2 : decode cX12_wrong 2 = .ok (.lconst 0, 1) := dB_3_3_13.1.2.1.1
theorem dX12_wrong_3 : decode cX12_wrong 3 = .ok (.ldc2_w 243, 3) := dB_3_3_13.1.2.1.2
theorem dX12_wrong_6 : decode cX12_wrong 6 = .ok (.invokestatic 91, 3) := dB_3_3_13.1.2.2.1
theorem dX12_wrong_9 : decode cX12_wrong 9 = .ok (.ifCond .eq 15, 3) := dB_3_3_13.1.2.2.2
theorem dX12_wrong_12 : decode cX12_wrong 12 = .ok (.iload_n 2, 1) := dB_3_3_13.2.1.1.1
theorem dX12_wrong_13 : decode cX12_wrong 13 = .ok (.i2l, 1) := dB_3_3_13.2.1.1.2
theorem dX12_wrong_14 : decode cX12_wrong 14 = .ok (.lconst 0, 1) := dB_3_3_13.2.1.2.1
theorem dX12_wrong_15 : decode cX12_wrong 15 = .ok (.ldc2_w 149, 3) := dB_3_3_13.2.1.2.2
theorem dX12_wrong_18 : decode cX12_wrong 18 = .ok (.invokestatic 91, 3) := dB_3_3_13.2.2.1.1
theorem dX12_wrong_21 : decode cX12_wrong 21 = .ok (.ifCond .ne 5, 3) := dB_3_3_13.2.2.1.2
theorem dX12_wrong_24 : decode cX12_wrong 24 = .ok (.iconst (-1), 1) := dB_3_3_13.2.2.2.1
theorem dX12_wrong_25 : decode cX12_wrong 25 = .ok (.ireturn, 1) := dB_3_3_13.2.2.2.2
theorem dB_3_3_14 : ((((decode cX12_wrong 26 = .ok (.aload_n 0, 1)) ∧ (decode cX12_wrong 27 = .ok (.getfield 38, 3))) ∧ ((decode cX12_wrong 30 = .ok (.iload_n 1, 1)) ∧ (decode cX12_wrong 31 = .ok (.baload, 1)))) ∧ (((decode cX12_wrong 32 = .ok (.ifCond .ne 6, 3)) ∧ (decode cX12_wrong 35 = .ok (.bipush (-11), 2))) ∧ ((decode cX12_wrong 37 = .ok (.ireturn, 1)) ∧ (decode cX12_wrong 38 = .ok (.aload_n 0, 1))))) ∧ ((((decode cX12_wrong 39 = .ok (.getfield 41, 3)) ∧ (decode cX12_wrong 42 = .ok (.iload_n 1, 1))) ∧ ((decode cX12_wrong 43 = .ok (.iaload, 1)) ∧ (decode cX12_wrong 44 = .ok (.iload_n 2, 1)))) ∧ (((decode cX12_wrong 45 = .ok (.if_icmp .eq 6, 3)) ∧ (decode cX12_wrong 48 = .ok (.bipush (-13), 2))) ∧ ((decode cX12_wrong 50 = .ok (.ireturn, 1)) ∧ (decode cX12_wrong 51 = .ok (.iload_n 3, 1))))) := by first | decide +kernel | ((repeat' apply And.intro) <;> decide +kernel)
theorem dX12_wrong_26 : decode cX12_wrong 26 = .ok (.aload_n 0, 1) := dB_3_3_14.1.1.1.1
theorem dX12_wrong_27 : decode cX12_wrong 27 = .ok (.getfield 38, 3) := dB_3_3_14.1.1.1.2
theorem dX12_wrong_30 : decode cX12_wrong 30 = .ok (.iload_n 1, 1) := dB_3_3_14.1.1.2.1
theorem dX12_wrong_31 : decode cX12_wrong 31 = .ok (.baload, 1) := dB_3_3_14.1.1.2.2
theorem dX12_wrong_32 : decode cX12_wrong 32 = .ok (.ifCond .ne 6, 3) := dB_3_3_14.1.2.1.1
theorem dX12_wrong_35 : decode cX12_wrong 35 = .ok (.bipush (-11), 2) := dB_3_3_14.1.2.1.2
theorem dX12_wrong_37 : decode cX12_wrong 37 = .ok (.ireturn, 1) := dB_3_3_14.1.2.2.1
theorem dX12_wrong_38 : decode cX12_wrong 38 = .ok (.aload_n 0, 1) := dB_3_3_14.1.2.2.2
theorem dX12_wrong_39 : decode cX12_wrong 39 = .ok (.getfield 41, 3) := dB_3_3_14.2.1.1.1
theorem dX12_wrong_42 : decode cX12_wrong 42 = .ok (.iload_n 1, 1) := dB_3_3_14.2.1.1.2
theorem dX12_wrong_43 : decode cX12_wrong 43 = .ok (.iaload, 1) := dB_3_3_14.2.1.2.1
theorem dX12_wrong_44 : decode cX12_wrong 44 = .ok (.iload_n 2, 1) := dB_3_3_14.2.1.2.2
theorem dX12_wrong_45 : decode cX12_wrong 45 = .ok (.if_icmp .eq 6, 3) := dB_3_3_14.2.2.1.1
theorem dX12_wrong_48 : decode cX12_wrong 48 = .ok (.bipush (-13), 2) := dB_3_3_14.2.2.1.2
theorem dX12_wrong_50 : decode cX12_wrong 50 = .ok (.ireturn, 1) := dB_3_3_14.2.2.2.1
theorem dX12_wrong_51 : decode cX12_wrong 51 = .ok (.iload_n 3, 1) := dB_3_3_14.2.2.2.2
theorem dB_3_3_15 : ((((decode cX12_wrong 52 = .ok (.i2l, 1)) ∧ (decode cX12_wrong 53 = .ok (.lconst 0, 1))) ∧ ((decode cX12_wrong 54 = .ok (.aload_n 0, 1)) ∧ (decode cX12_wrong 55 = .ok (.getfield 44, 3)))) ∧ (((decode cX12_wrong 58 = .ok (.iload_n 1, 1)) ∧ (decode cX12_wrong 59 = .ok (.iaload, 1))) ∧ ((decode cX12_wrong 60 = .ok (.iconst 1, 1)) ∧ (decode cX12_wrong 61 = .ok (.isub, 1))))) ∧ ((((decode cX12_wrong 62 = .ok (.i2l, 1)) ∧ (decode cX12_wrong 63 = .ok (.invokestatic 91, 3))) ∧ ((decode cX12_wrong 66 = .ok (.ifCond .ne 6, 3)) ∧ (decode cX12_wrong 69 = .ok (.bipush (-12), 2)))) ∧ (((decode cX12_wrong 71 = .ok (.ireturn, 1)) ∧ (decode cX12_wrong 72 = .ok (.aload_n 0, 1))) ∧ ((decode cX12_wrong 73 = .ok (.getfield 47, 3)) ∧ (decode cX12_wrong 76 = .ok (.bipush 6, 2))))) := by first | decide +kernel | ((repeat' apply And.intro) <;> decide +kernel)
theorem dX12_wrong_52 : decode cX12_wrong 52 = .ok (.i2l, 1) := dB_3_3_15.1.1.1.1
theorem dX12_wrong_53 : decode cX12_wrong 53 = .ok (.lconst 0, 1) := dB_3_3_15.1.1.1.2
theorem dX12_wrong_54 : decode cX12_wrong 54 = .ok (.aload_n 0, 1) := dB_3_3_15.1.1.2.1
theorem dX12_wrong_55 : decode cX12_wrong 55 = .ok (.getfield 44, 3) := dB_3_3_15.1.1.2.2
theorem dX12_wrong_58 : decode cX12_wrong 58 = .ok (.iload_n 1, 1) := dB_3_3_15.1.2.1.1
theorem dX12_wrong_59 : decode cX12_wrong 59 = .ok (.iaload, 1) := dB_3_3_15.1.2.1.2
theorem dX12_wrong_60 : decode cX12_wrong 60 = .ok (.iconst 1, 1) := dB_3_3_15.1.2.2.1
theorem dX12_wrong_61 : decode cX12_wrong 61 = .ok (.isub, 1) := dB_3_3_15.1.2.2.2
theorem dX12_wrong_62 : decode cX12_wrong 62 = .ok (.i2l, 1) := dB_3_3_15.2.1.1.1
theorem dX12_wrong_63 : decode cX12_wrong 63 = .ok (.invokestatic 91, 3) := dB_3_3_15.2.1.1.2
theorem dX12_wrong_66 : decode cX12_wrong 66 = .ok (.ifCond .ne 6, 3) := dB_3_3_15.2.1.2.1
theorem dX12_wrong_69 : decode cX12_wrong 69 = .ok (.bipush (-12), 2) := dB_3_3_15.2.1.2.2
theorem dX12_wrong_71 : decode cX12_wrong 71 = .ok (.ireturn, 1) := dB_3_3_15.2.2.1.1
theorem dX12_wrong_72 : decode cX12_wrong 72 = .ok (.aload_n 0, 1) := dB_3_3_15.2.2.1.2
theorem dX12_wrong_73 : decode cX12_wrong 73 = .ok (.getfield 47, 3) := dB_3_3_15.2.2.2.1
theorem dX12_wrong_76 : decode cX12_wrong 76 = .ok (.bipush 6, 2) := dB_3_3_15.2.2.2.2
theorem dB_3_3_16 : ((((decode cX12_wrong 78 = .ok (.iload_n 1, 1)) ∧ (decode cX12_wrong 79 = .ok (.imul, 1))) ∧ ((decode cX12_wrong 80 = .ok (.iload_n 3, 1)) ∧ (decode cX12_wrong 81 = .ok (.iadd, 1)))) ∧ (((decode cX12_wrong 82 = .ok (.iaload, 1)) ∧ (decode cX12_wrong 83 = .ok (.istore 5, 2))) ∧ ((decode cX12_wrong 85 = .ok (.iload 5, 2)) ∧ (decode cX12_wrong 87 = .ok (.bipush (-9), 2))))) ∧ ((((decode cX12_wrong 89 = .ok (.if_icmp .ne 8, 3)) ∧ (decode cX12_wrong 92 = .ok (.bipush (-11), 2))) ∧ ((decode cX12_wrong 94 = .ok (.goto 24, 3)) ∧ (decode cX12_wrong 97 = .ok (.iload 4, 2)))) ∧ (((decode cX12_wrong 99 = .ok (.i2l, 1)) ∧ (decode cX12_wrong 100 = .ok (.lconst 0, 1))) ∧ ((decode cX12_wrong 101 = .ok (.iload 5, 2)) ∧ (decode cX12_wrong 103 = .ok (.iconst 1, 1))))) := by first | decide +kernel | ((repeat' apply And.intro) <;> decide +kernel)
theorem dX12_wrong_78 : decode cX12_wrong 78 = .ok (.iload_n 1, 1) := dB_3_3_16.1.1.1.1
theorem dX12_wrong_79 : decode cX12_wrong 79 = .ok (.imul, 1) := dB_3_3_16.1.1.1.2
theorem dX12_wrong_80 : decode cX12_wrong 80 = .ok (.iload_n 3, 1) := dB_3_3_16.1.1.2.1
theorem dX12_wrong_81 : decode cX12_wrong 81 = .ok (.iadd, 1) := dB_3_3_16.1.1.2.2
theorem dX12_wrong_82 : decode cX12_wrong 82 = .ok (.iaload, 1) := dB_3_3_16.1.2.1.1
theorem dX12_wrong_83 : decode cX12_wrong 83 = .ok (.istore 5, 2) := dB_3_3_16.1.2.1.2
theorem dX12_wrong_85 : decode cX12_wrong 85 = .ok (.iload 5, 2) := dB_3_3_16.1.2.2.1
theorem dX12_wrong_87 : decode cX12_wrong 87 = .ok (.bipush (-9), 2) := dB_3_3_16.1.2.2.2
theorem dX12_wrong_89 : decode cX12_wrong 89 = .ok (.if_icmp .ne 8, 3) := dB_3_3_16.2.1.1.1
theorem dX12_wrong_92 : decode cX12_wrong 92 = .ok (.bipush (-11), 2) := dB_3_3_16.2.1.1.2
theorem dX12_wrong_94 : decode cX12_wrong 94 = .ok (.goto 24, 3) := dB_3_3_16.2.1.2.1
theorem dX12_wrong_97 : decode cX12_wrong 97 = .ok (.iload 4, 2) := dB_3_3_16.2.1.2.2
theorem dX12_wrong_99 : decode cX12_wrong 99 = .ok (.i2l, 1) := dB_3_3_16.2.2.1.1
theorem dX12_wrong_100 : decode cX12_wrong 100 = .ok (.lconst 0, 1) := dB_3_3_16.2.2.1.2
theorem dX12_wrong_101 : decode cX12_wrong 101 = .ok (.iload 5, 2) := dB_3_3_16.2.2.2.1
theorem dX12_wrong_103 : decode cX12_wrong 103 = .ok (.iconst 1, 1) := dB_3_3_16.2.2.2.2
theorem dB_3_3_17 : ((((decode cX12_wrong 104 = .ok (.isub, 1)) ∧ (decode cX12_wrong 105 = .ok (.i2l, 1))) ∧ ((decode cX12_wrong 106 = .ok (.invokestatic 91, 3)) ∧ (decode cX12_wrong 109 = .ok (.ifCond .ne 8, 3)))) ∧ (((decode cX12_wrong 112 = .ok (.bipush (-12), 2)) ∧ (decode cX12_wrong 114 = .ok (.goto 4, 3))) ∧ ((decode cX12_wrong 117 = .ok (.iconst 0, 1)) ∧ (decode cX12_wrong 118 = .ok (.ireturn, 1))))) ∧ ((((decode cX12_put 0 = .ok (.aload_n 0, 1)) ∧ (decode cX12_put 1 = .ok (.iconst 0, 1))) ∧ ((decode cX12_put 2 = .ok (.putfield 85, 3)) ∧ (decode cX12_put 5 = .ok (.aload_n 0, 1)))) ∧ (((decode cX12_put 6 = .ok (.iconst 0, 1)) ∧ (decode cX12_put 7 = .ok (.putfield 240, 3))) ∧ ((decode cX12_put 10 = .ok (.aload_n 0, 1)) ∧ (decode cX12_put 11 = .ok (.iload_n 1, 1))))) := by first | decide +kernel | ((repeat' apply And.intro) <;> decide +kernel)
theorem dX12_wrong_104 : decode cX12_wrong 104 = .ok (.isub, 1) := dB_3_3_17.1.1.1.1
theorem dX12_wrong_105 : decode cX12_wrong 105 = .ok (.i2l, 1) := dB_3_3_17.1.1.1.2
theorem dX12_wrong_106 : decode cX12_wrong 106 = .ok (.invokestatic 91, 3) := dB_3_3_17.1.1.2.1
theorem dX12_wrong_109 : decode cX12_wrong 109 = .ok (.ifCond .ne 8, 3) := dB_3_3_17.1.1.2.2
theorem dX12_wrong_112 : decode cX12_wrong 112 = .ok (.bipush (-12), 2) := dB_3_3_17.1.2.1.1
theorem dX12_wrong_114 : decode cX12_wrong 114 = .ok (.goto 4, 3) := dB_3_3_17.1.2.1.2
theorem dX12_wrong_117 : decode cX12_wrong 117 = .ok (.iconst 0, 1) := dB_3_3_17.1.2.2.1
theorem dX12_wrong_118 : decode cX12_wrong 118 = .ok (.ireturn, 1) := dB_3_3_17.1.2.2.2
theorem dX12_put_0 : decode cX12_put 0 = .ok (.aload_n 0, 1) := dB_3_3_17.2.1.1.1
theorem dX12_put_1 : decode cX12_put 1 = .ok (.iconst 0, 1) := dB_3_3_17.2.1.1.2
theorem dX12_put_2 : decode cX12_put 2 = .ok (.putfield 85, 3) := dB_3_3_17.2.1.2.1
theorem dX12_put_5 : decode cX12_put 5 = .ok (.aload_n 0, 1) := dB_3_3_17.2.1.2.2
theorem dX12_put_6 : decode cX12_put 6 = .ok (.iconst 0, 1) := dB_3_3_17.2.2.1.1
theorem dX12_put_7 : decode cX12_put 7 = .ok (.putfield 240, 3) := dB_3_3_17.2.2.1.2
theorem dX12_put_10 : decode cX12_put 10 = .ok (.aload_n 0, 1) := dB_3_3_17.2.2.2.1
theorem dX12_put_11 : decode cX12_put 11 = .ok (.iload_n 1, 1) := dB_3_3_17.2.2.2.2
theorem dB_3_3_18 : ((((decode cX12_put 12 = .ok (.iload_n 2, 1)) ∧ (decode cX12_put 13 = .ok (.iload_n 3, 1))) ∧ ((decode cX12_put 14 = .ok (.iload 4, 2)) ∧ (decode cX12_put 16 = .ok (.invokevirtual 248, 3)))) ∧ (((decode cX12_put 19 = .ok (.istore 7, 2)) ∧ (decode cX12_put 21 = .ok (.iload 7, 2))) ∧ ((decode cX12_put 23 = .ok (.ifCond .ge 10, 3)) ∧ (decode cX12_put 26 = .ok (.aload_n 0, 1))))) ∧ ((((decode cX12_put 27 = .ok (.iload 7, 2)) ∧ (decode cX12_put 29 = .ok (.invokevirtual 245, 3))) ∧ ((decode cX12_put 32 = .ok (.ireturn, 1)) ∧ (decode cX12_put 33 = .ok (.aload_n 0, 1)))) ∧ (((decode cX12_put 34 = .ok (.getfield 50, 3)) ∧ (decode cX12_put 37 = .ok (.bipush 30, 2))) ∧ ((decode cX12_put 39 = .ok (.iload_n 1, 1)) ∧ (decode cX12_put 40 = .ok (.imul, 1))))) := by first | decide +kernel | ((repeat' apply And.intro) <;> decide +kernel)
theorem dX12_put_12 : decode cX12_put 12 = .ok (.iload_n 2, 1) := dB_3_3_18.1.1.1.1
theorem dX12_put_13 : decode cX12_put 13 = .ok (.iload_n 3, 1) := dB_3_3_18.1.1.1.2
theorem dX12_put_14 : decode cX12_put 14 = .ok (.iload 4, 2) := dB_3_3_18.1.1.2.1
theorem dX12_put_16 : decode cX12_put 16 = .ok (.invokevirtual 248, 3) := dB_3_3_18.1.1.2.2
theorem dX12_put_19 : decode cX12_put 19 = .ok (.istore 7, 2) := dB_3_3_18.1.2.1.1
theorem dX12_put_21 : decode cX12_put 21 = .ok (.iload 7, 2) := dB_3_3_18.1.2.1.2
theorem dX12_put_23 : decode cX12_put 23 = .ok (.ifCond .ge 10, 3) := dB_3_3_18.1.2.2.1
theorem dX12_put_26 : decode cX12_put 26 = .ok (.aload_n 0, 1) := dB_3_3_18.1.2.2.2
theorem dX12_put_27 : decode cX12_put 27 = .ok (.iload 7, 2) := dB_3_3_18.2.1.1.1
theorem dX12_put_29 : decode cX12_put 29 = .ok (.invokevirtual 245, 3) := dB_3_3_18.2.1.1.2
theorem dX12_put_32 : decode cX12_put 32 = .ok (.ireturn, 1) := dB_3_3_18.2.1.2.1
theorem dX12_put_33 : decode cX12_put 33 = .ok (.aload_n 0, 1) := dB_3_3_18.2.1.2.2
theorem dX12_put_34 : decode cX12_put 34 = .ok (.getfield 50, 3) := dB_3_3_18.2.2.1.1
theorem dX12_put_37 : decode cX12_put 37 = .ok (.bipush 30, 2) := dB_3_3_18.2.2.1.2
theorem dX12_put_39 : decode cX12_put 39 = .ok (.iload_n 1, 1) := dB_3_3_18.2.2.2.1
theorem dX12_put_40 : decode cX12_put 40 = .ok (.imul, 1) := dB_3_3_18.2.2.2.2
theorem dB_3_3_19 : ((((decode cX12_put 41 = .ok (.iconst 5, 1)) ∧ (decode cX12_put 42 = .ok (.iload_n 3, 1))) ∧ ((decode cX12_put 43 = .ok (.imul, 1)) ∧ (decode cX12_put 44 = .ok (.iadd, 1)))) ∧ (((decode cX12_put 45 = .ok (.iload 4, 2)) ∧ (decode cX12_put 47 = .ok (.iadd, 1))) ∧ ((decode cX12_put 48 = .ok (.iload_n 2, 1)) ∧ (decode cX12_put 49 = .ok (.ifCond .ne 11, 3))))) ∧ ((((decode cX12_put 52 = .ok (.lload 5, 2)) ∧ (decode cX12_put 54 = .ok (.l2i, 1))) ∧ ((decode cX12_put 55 = .ok (.i2s, 1)) ∧ (decode cX12_put 56 = .ok (.i2l, 1)))) ∧ (((decode cX12_put 57 = .ok (.goto 17, 3)) ∧ (decode cX12_put 60 = .ok (.iload_n 2, 1))) ∧ ((decode cX12_put 61 = .ok (.iconst 1, 1)) ∧ (decode cX12_put 62 = .ok (.if_icmp .ne 10, 3))))) := by first | decide +kernel | ((repeat' apply And.intro) <;> decide +kernel)
theorem dX12_put_41 : decode cX12_put 41 = .ok (.iconst 5, 1) := dB_3_3_19.1.1.1.1
theorem dX12_put_42 : decode cX12_put 42 = .ok (.iload_n 3, 1) := dB_3_3_19.1.1.1.2
theorem dX12_put_43 : decode cX12_put 43 = .ok (.imul, 1) := dB_3_3_19.1.1.2.1
theorem dX12_put_44 : decode cX12_put 44 = .ok (.iadd, 1) := dB_3_3_19.1.1.2.2
theorem dX12_put_45 : decode cX12_put 45 = .ok (.iload 4, 2) := dB_3_3_19.1.2.1.1
theorem dX12_put_47 : decode cX12_put 47 = .ok (.iadd, 1) := dB_3_3_19.1.2.1.2
theorem dX12_put_48 : decode cX12_put 48 = .ok (.iload_n 2, 1) := dB_3_3_19.1.2.2.1
theorem dX12_put_49 : decode cX12_put 49 = .ok (.ifCond .ne 11, 3) := dB_3_3_19.1.2.2.2
theorem dX12_put_52 : decode cX12_put 52 = .ok (.lload 5, 2) := dB_3_3_19.2.1.1.1
theorem dX12_put_54 : decode cX12_put 54 = .ok (.l2i, 1) := dB_3_3_19.2.1.1.2
theorem dX12_put_55 : decode cX12_put 55 = .ok (.i2s, 1) := dB_3_3_19.2.1.2.1
theorem dX12_put_56 : decode cX12_put 56 = .ok (.i2l, 1) := dB_3_3_19.2.1.2.2
theorem dX12_put_57 : decode cX12_put 57 = .ok (.goto 17, 3) := dB_3_3_19.2.2.1.1
theorem dX12_put_60 : decode cX12_put 60 = .ok (.iload_n 2, 1) := dB_3_3_19.2.2.1.2
theorem dX12_put_61 : decode cX12_put 61 = .ok (.iconst 1, 1) := dB_3_3_19.2.2.2.1
theorem dX12_put_62 : decode cX12_put 62 = .ok (.if_icmp .ne 10, 3) := dB_3_3_19.2.2.2.2
theorem dB_3_3_20 : ((((decode cX12_put 65 = .ok (.lload 5, 2)) ∧ (decode cX12_put 67 = .ok (.l2i, 1))) ∧ ((decode cX12_put 68 = .ok (.i2l, 1)) ∧ (decode cX12_put 69 = .ok (.goto 5, 3)))) ∧ (((decode cX12_put 72 = .ok (.lload 5, 2)) ∧ (decode cX12_put 74 = .ok (.lastore, 1))) ∧ ((decode cX12_put 75 = .ok (.iconst 1, 1)) ∧ (decode cX12_put 76 = .ok (.ireturn, 1))))) ∧ ((((decode cX12_areThere 0 = .ok (.iload_n 0, 1)) ∧ (decode cX12_areThere 1 = .ok (.ifCond .lt 22, 3))) ∧ ((decode cX12_areThere 4 = .ok (.iload_n 1, 1)) ∧ (decode cX12_areThere 5 = .ok (.ifCond .lt 18, 3)))) ∧ (((decode cX12_areThere 8 = .ok (.iload_n 0, 1)) ∧ (decode cX12_areThere 9 = .ok (.i2l, 1))) ∧ ((decode cX12_areThere 10 = .ok (.iload_n 1, 1)) ∧ (decode cX12_areThere 11 = .ok (.i2l, 1))))) := by first | decide +kernel | ((repeat' apply And.intro) <;> decide +kernel)
theorem dX12_put_65 : decode cX12_put 65 = .ok (.lload 5, 2) := dB_3_3_20.1.1.1.1
theorem dX12_put_67 : decode cX12_put 67 = .ok (.l2i, 1) := dB_3_3_20.1.1.1.2
theorem dX12_put_68 : decode cX12_put 68 = .ok (.i2l, 1) := dB_3_3_20.1.1.2.1
theorem dX12_put_69 : decode cX12_put 69 = .ok (.goto 5, 3) := dB_3_3_20.1.1.2.2
theorem dX12_put_72 : decode cX12_put 72 = .ok (.lload 5, 2) := dB_3_3_20.1.2.1.1
theorem dX12_put_74 : decode cX12_put 74 = .ok (.lastore, 1) := dB_3_3_20.1.2.1.2
theorem dX12_put_75 : decode cX12_put 75 = .ok (.iconst 1, 1) := dB_3_3_20.1.2.2.1
theorem dX12_put_76 : decode cX12_put 76 = .ok (.ireturn, 1) := dB_3_3_20.1.2.2.2
theorem dX12_areThere_0 : decode cX12_areThere 0 = .ok (.iload_n 0, 1) := dB_3_3_20.2.1.1.1
theorem dX12_areThere_1 : decode cX12_areThere 1 = .ok (.ifCond .lt 22, 3) := dB_3_3_20.2.1.1.2
theorem dX12_areThere_4 : decode cX12_areThere 4 = .ok (.iload_n 1, 1) := dB_3_3_20.2.1.2.1
theorem dX12_areThere_5 : decode cX12_areThere 5 = .ok (.ifCond .lt 18, 3) := dB_3_3_20.2.1.2.2
theorem dX12_areThere_8 : decode cX12_areThere 8 = .ok (.iload_n 0, 1) := dB_3_3_20.2.2.1.1
theorem dX12_areThere_9 : decode cX12_areThere 9 = .ok (.i2l, 1) := dB_3_3_20.2.2.1.2
theorem dX12_areThere_10 : decode cX12_areThere 10 = .ok (.iload_n 1, 1) := dB_3_3_20.2.2.2.1
theorem dX12_areThere_11 : decode cX12_areThere 11 = .ok (.i2l, 1) := dB_3_3_20.2.2.2.2
theorem dB_3_3_21 : ((((decode cX12_areThere 12 = .ok (.ladd, 1)) ∧ (decode cX12_areThere 13 = .ok (.iload_n 2, 1))) ∧ ((decode cX12_areThere 14 = .ok (.i2l, 1)) ∧ (decode cX12_areThere 15 = .ok (.lcmp, 1)))) ∧ (((decode cX12_areThere 16 = .ok (.ifCond .gt 7, 3)) ∧ (decode cX12_areThere 19 = .ok (.iconst 1, 1))) ∧ ((decode cX12_areThere 20 = .ok (.goto 4, 3)) ∧ (decode cX12_areThere 23 = .ok (.iconst 0, 1))))) ∧ ((((decode cX12_areThere 24 = .ok (.ireturn, 1)) ∧ (decode cX12_copy 0 = .ok (.aload_n 0, 1))) ∧ ((decode cX12_copy 1 = .ok (.iconst 0, 1)) ∧ (decode cX12_copy 2 = .ok (.putfield 85, 3)))) ∧ (((decode cX12_copy 5 = .ok (.aload_n 0, 1)) ∧ (decode cX12_copy 6 = .ok (.iconst 0, 1))) ∧ ((decode cX12_copy 7 = .ok (.putfield 240, 3)) ∧ (decode cX12_copy 10 = .ok (.iload_n 1, 1))))) := by first | decide +kernel | ((repeat' apply And.intro) <;> decide +kernel)
theorem dX12_areThere_12 : decode cX12_areThere 12 = .ok (.ladd, 1) := dB_3_3_21.1.1.1.1
theorem dX12_areThere_13 : decode cX12_areThere 13 = .ok (.iload_n 2, 1) := dB_3_3_21.1.1.1.2
theorem dX12_areThere_14 : decode cX12_areThere 14 = .ok (.i2l, 1) := dB_3_3_21.1.1.2.1
theorem dX12_areThere_15 : decode cX12_areThere 15 = .ok (.lcmp, 1) := dB_3_3_21.1.1.2.2
theorem dX12_areThere_16 : decode cX12_areThere 16 = .ok (.ifCond .gt 7, 3) := dB_3_3_21.1.2.1.1
theorem dX12_areThere_19 : decode cX12_areThere 19 = .ok (.iconst 1, 1) := dB_3_3_21.1.2.1.2
theorem dX12_areThere_20 : decode cX12_areThere 20 = .ok (.goto 4, 3) := dB_3_3_21.1.2.2.1
theorem dX12_areThere_23 : decode cX12_areThere 23 = .ok (.iconst 0, 1) := dB_3_3_21.1.2.2.2
theorem dX12_areThere_24 : decode cX12_areThere 24 = .ok (.ireturn, 1) := dB_3_3_21.2.1.1.1
theorem dX12_copy_0 : decode cX12_copy 0 = .ok (.aload_n 0, 1) := dB_3_3_21.2.1.1.2
theorem dX12_copy_1 : decode cX12_copy 1 = .ok (.iconst 0, 1) := dB_3_3_21.2.1.2.1
theorem dX12_copy_2 : decode cX12_copy 2 = .ok (.putfield 85, 3) := dB_3_3_21.2.1.2.2
theorem dX12_copy_5 : decode cX12_copy 5 = .ok (.aload_n 0, 1) := dB_3_3_21.2.2.1.1
theorem dX12_copy_6 : decode cX12_copy 6 = .ok (.iconst 0, 1) := dB_3_3_21.2.2.1.2
theorem dX12_copy_7 : decode cX12_copy 7 = .ok (.putfield 240, 3) := dB_3_3_21.2.2.2.1
theorem dX12_copy_10 : decode cX12_copy 10 = .ok (.iload_n 1, 1) := dB_3_3_21.2.2.2.2
theorem dB_3_3_22 : ((((decode cX12_copy 11 = .ok (.i2l, 1)) ∧ (decode cX12_copy 12 = .ok (.lconst 0, 1))) ∧ ((decode cX12_copy 13 = .ok (.ldc2_w 243, 3)) ∧ (decode cX12_copy 16 = .ok (.invokestatic 91, 3)))) ∧ (((decode cX12_copy 19 = .ok (.ifCond .ne 9, 3)) ∧ (decode cX12_copy 22 = .ok (.aload_n 0, 1))) ∧ ((decode cX12_copy 23 = .ok (.iconst (-1), 1)) ∧ (decode cX12_copy 24 = .ok (.invokevirtual 245, 3))))) ∧ ((((decode cX12_copy 27 = .ok (.ireturn, 1)) ∧ (decode cX12_copy 28 = .ok (.aload_n 0, 1))) ∧ ((decode cX12_copy 29 = .ok (.getfield 38, 3)) ∧ (decode cX12_copy 32 = .ok (.iload_n 1, 1)))) ∧ (((decode cX12_copy 33 = .ok (.baload, 1)) ∧ (decode cX12_copy 34 = .ok (.ifCond .ne 10, 3))) ∧ ((decode cX12_copy 37 = .ok (.aload_n 0, 1)) ∧ (decode cX12_copy 38 = .ok (.bipush (-11), 2))))) := by first | decide +kernel | ((repeat' apply And.intro) <;> decide +kernel)
theorem dX12_copy_11 : decode cX12_copy 11 = .ok (.i2l, 1) := dB_3_3_22.1.1.1.1
theorem dX12_copy_12 : decode cX12_copy 12 = .ok (.lconst 0, 1) := dB_3_3_22.1.1.1.2
theorem dX12_copy_13 : decode cX12_copy 13 = .ok (.ldc2_w 243, 3) := dB_3_3_22.1.1.2.1
theorem dX12_copy_16 : decode cX12_copy 16 = .ok (.invokestatic 91, 3) := dB_3_3_22.1.1.2.2
theorem dX12_copy_19 : decode cX12_copy 19 = .ok (.ifCond .ne 9, 3) := dB_3_3_22.1.2.1.1
theorem dX12_copy_22 : decode cX12_copy 22 = .ok (.aload_n 0, 1) := dB_3_3_22.1.2.1.2
theorem dX12_copy_23 : decode cX12_copy 23 = .ok (.iconst (-1), 1) := dB_3_3_22.1.2.2.1
theorem dX12_copy_24 : decode cX12_copy 24 = .ok (.invokevirtual 245, 3) := dB_3_3_22.1.2.2.2
theorem dX12_copy_27 : decode cX12_copy 27 = .ok (.ireturn, 1) := dB_3_3_22.2.1.1.1
theorem dX12_copy_28 : decode cX12_copy 28 = .ok (.aload_n 0, 1) := dB_3_3_22.2.1.1.2
theorem dX12_copy_29 : decode cX12_copy 29 = .ok (.getfield 38, 3) := dB_3_3_22.2.1.2.1
theorem dX12_copy_32 : decode cX12_copy 32 = .ok (.iload_n 1, 1) := dB_3_3_22.2.1.2.2
theorem dX12_copy_33 : decode cX12_copy 33 = .ok (.baload, 1) := dB_3_3_22.2.2.1.1
theorem dX12_copy_34 : decode cX12_copy 34 = .ok (.ifCond .ne 10, 3) := dB_3_3_22.2.2.1.2
theorem dX12_copy_37 : decode cX12_copy 37 = .ok (.aload_n 0, 1) := dB_3_3_22.2.2.2.1
theorem dX12_copy_38 : decode cX12_copy 38 = .ok (.bipush (-11), 2) := dB_3_3_22.2.2.2.2
theorem dB_3_3_23 : ((((decode cX12_copy 40 = .ok (.invokevirtual 245, 3)) ∧ (decode cX12_copy 43 = .ok (.ireturn, 1))) ∧ ((decode cX12_copy 44 = .ok (.iload_n 2, 1)) ∧ (decode cX12_copy 45 = .ok (.i2l, 1)))) ∧ (((decode cX12_copy 46 = .ok (.lconst 0, 1)) ∧ (decode cX12_copy 47 = .ok (.aload_n 0, 1))) ∧ ((decode cX12_copy 48 = .ok (.getfield 44, 3)) ∧ (decode cX12_copy 51 = .ok (.iload_n 1, 1))))) ∧ ((((decode cX12_copy 52 = .ok (.iaload, 1)) ∧ (decode cX12_copy 53 = .ok (.iconst 1, 1))) ∧ ((decode cX12_copy 54 = .ok (.isub, 1)) ∧ (decode cX12_copy 55 = .ok (.i2l, 1)))) ∧ (((decode cX12_copy 56 = .ok (.invokestatic 91, 3)) ∧ (decode cX12_copy 59 = .ok (.ifCond .eq 22, 3))) ∧ ((decode cX12_copy 62 = .ok (.iload 4, 2)) ∧ (decode cX12_copy 64 = .ok (.i2l, 1))))) := by first | decide +kernel | ((repeat' apply And.intro) <;> decide +kernel)
theorem dX12_copy_40 : decode cX12_copy 40 = .ok (.invokevirtual 245, 3) := dB_3_3_23.1.1.1.1
theorem dX12_copy_43 : decode cX12_copy 43 = .ok (.ireturn, 1) := dB_3_3_23.1.1.1.2
theorem dX12_copy_44 : decode cX12_copy 44 = .ok (.iload_n 2, 1) := dB_3_3_23.1.1.2.1
theorem dX12_copy_45 : decode cX12_copy 45 = .ok (.i2l, 1) := dB_3_3_23.1.1.2.2
theorem dX12_copy_46 : decode cX12_copy 46 = .ok (.lconst 0, 1) := dB_3_3_23.1.2.1.1
theorem dX12_copy_47 : decode cX12_copy 47 = .ok (.aload_n 0, 1) := dB_3_3_23.1.2.1.2
theorem dX12_copy_48 : decode cX12_copy 48 = .ok (.getfield 44, 3) := dB_3_3_23.1.2.2.1
theorem dX12_copy_51 : decode cX12_copy 51 = .ok (.iload_n 1, 1) := dB_3_3_23.1.2.2.2
theorem dX12_copy_52 : decode cX12_copy 52 = .ok (.iaload, 1) := dB_3_3_23.2.1.1.1
theorem dX12_copy_53 : decode cX12_copy 53 = .ok (.iconst 1, 1) := dB_3_3_23.2.1.1.2
theorem dX12_copy_54 : decode cX12_copy 54 = .ok (.isub, 1) := dB_3_3_23.2.1.2.1
theorem dX12_copy_55 : decode cX12_copy 55 = .ok (.i2l, 1) := dB_3_3_23.2.1.2.2
theorem dX12_copy_56 : decode cX12_copy 56 = .ok (.invokestatic 91, 3) := dB_3_3_23.2.2.1.1
theorem dX12_copy_59 : decode cX12_copy 59 = .ok (.ifCond .eq 22, 3) := dB_3_3_23.2.2.1.2
theorem dX12_copy_62 : decode cX12_copy 62 = .ok (.iload 4, 2) := dB_3_3_23.2.2.2.1
theorem dX12_copy_64 : decode cX12_copy 64 = .ok (.i2l, 1) := dB_3_3_23.2.2.2.2
theorem dB_3_3_24 : ((((decode cX12_copy 65 = .ok (.lconst 0, 1)) ∧ (decode cX12_copy 66 = .ok (.aload_n 0, 1))) ∧ ((decode cX12_copy 67 = .ok (.getfield 44, 3)) ∧ (decode cX12_copy 70 = .ok (.iload_n 1, 1)))) ∧ (((decode cX12_copy 71 = .ok (.iaload, 1)) ∧ (decode cX12_copy 72 = .ok (.iconst 1, 1))) ∧ ((decode cX12_copy 73 = .ok (.isub, 1)) ∧ (decode cX12_copy 74 = .ok (.i2l, 1))))) ∧ ((((decode cX12_copy 75 = .ok (.invokestatic 91, 3)) ∧ (decode cX12_copy 78 = .ok (.ifCond .ne 10, 3))) ∧ ((decode cX12_copy 81 = .ok (.aload_n 0, 1)) ∧ (decode cX12_copy 82 = .ok (.bipush (-12), 2)))) ∧ (((decode cX12_copy 84 = .ok (.invokevirtual 245, 3)) ∧ (decode cX12_copy 87 = .ok (.ireturn, 1))) ∧ ((decode cX12_copy 88 = .ok (.aload_n 0, 1)) ∧ (decode cX12_copy 89 = .ok (.getfield 47, 3))))) := by first | decide +kernel | ((repeat' apply And.intro) <;> decide +kernel)
theorem dX12_copy_65 : decode cX12_copy 65 = .ok (.lconst 0, 1) := dB_3_3_24.1.1.1.1
theorem dX12_copy_66 : decode cX12_copy 66 = .ok (.aload_n 0, 1) := dB_3_3_24.1.1.1.2
theorem dX12_copy_67 : decode cX12_copy 67 = .ok (.getfield 44, 3) := dB_3_3_24.1.1.2.1
theorem dX12_copy_70 : decode cX12_copy 70 = .ok (.iload_n 1, 1) := dB_3_3_24.1.1.2.2
theorem dX12_copy_71 : decode cX12_copy 71 = .ok (.iaload, 1) := dB_3_3_24.1.2.1.1
theorem dX12_copy_72 : decode cX12_copy 72 = .ok (.iconst 1, 1) := dB_3_3_24.1.2.1.2
theorem dX12_copy_73 : decode cX12_copy 73 = .ok (.isub, 1) := dB_3_3_24.1.2.2.1
theorem dX12_copy_74 : decode cX12_copy 74 = .ok (.i2l, 1) := dB_3_3_24.1.2.2.2
theorem dX12_copy_75 : decode cX12_copy 75 = .ok (.invokestatic 91, 3) := dB_3_3_24.2.1.1.1
theorem dX12_copy_78 : decode cX12_copy 78 = .ok (.ifCond .ne 10, 3) := dB_3_3_24.2.1.1.2
theorem dX12_copy_81 : decode cX12_copy 81 = .ok (.aload_n 0, 1) := dB_3_3_24.2.1.2.1
theorem dX12_copy_82 : decode cX12_copy 82 = .ok (.bipush (-12), 2) := dB_3_3_24.2.1.2.2
theorem dX12_copy_84 : decode cX12_copy 84 = .ok (.invokevirtual 245, 3) := dB_3_3_24.2.2.1.1
theorem dX12_copy_87 : decode cX12_copy 87 = .ok (.ireturn, 1) := dB_3_3_24.2.2.1.2
theorem dX12_copy_88 : decode cX12_copy 88 = .ok (.aload_n 0, 1) := dB_3_3_24.2.2.2.1
theorem dX12_copy_89 : decode cX12_copy 89 = .ok (.getfield 47, 3) := dB_3_3_24.2.2.2.2
theorem dB_3_3_25 : ((((decode cX12_copy 92 = .ok (.bipush 6, 2)) ∧ (decode cX12_copy 94 = .ok (.iload_n 1, 1))) ∧ ((decode cX12_copy 95 = .ok (.imul, 1)) ∧ (decode cX12_copy 96 = .ok (.iload_n 2, 1)))) ∧ (((decode cX12_copy 97 = .ok (.iadd, 1)) ∧ (decode cX12_copy 98 = .ok (.iaload, 1))) ∧ ((decode cX12_copy 99 = .ok (.istore 7, 2)) ∧ (decode cX12_copy 101 = .ok (.aload_n 0, 1))))) ∧ ((((decode cX12_copy 102 = .ok (.getfield 47, 3)) ∧ (decode cX12_copy 105 = .ok (.bipush 6, 2))) ∧ ((decode cX12_copy 107 = .ok (.iload_n 1, 1)) ∧ (decode cX12_copy 108 = .ok (.imul, 1)))) ∧ (((decode cX12_copy 109 = .ok (.iload 4, 2)) ∧ (decode cX12_copy 111 = .ok (.iadd, 1))) ∧ ((decode cX12_copy 112 = .ok (.iaload, 1)) ∧ (decode cX12_copy 113 = .ok (.istore 8, 2))))) := by first | decide +kernel | ((repeat' apply And.intro) <;> decide +kernel)
theorem dX12_copy_92 : decode cX12_copy 92 = .ok (.bipush 6, 2) := dB_3_3_25.1.1.1.1
theorem dX12_copy_94 : decode cX12_copy 94 = .ok (.iload_n 1, 1) := dB_3_3_25.1.1.1.2
theorem dX12_copy_95 : decode cX12_copy 95 = .ok (.imul, 1) := dB_3_3_25.1.1.2.1
theorem dX12_copy_96 : decode cX12_copy 96 = .ok (.iload_n 2, 1) := dB_3_3_25.1.1.2.2
theorem dX12_copy_97 : decode cX12_copy 97 = .ok (.iadd, 1) := dB_3_3_25.1.2.1.1
theorem dX12_copy_98 : decode cX12_copy 98 = .ok (.iaload, 1) := dB_3_3_25.1.2.1.2
theorem dX12_copy_99 : decode cX12_copy 99 = .ok (.istore 7, 2) := dB_3_3_25.1.2.2.1
theorem dX12_copy_101 : decode cX12_copy 101 = .ok (.aload_n 0, 1) := dB_3_3_25.1.2.2.2
theorem dX12_copy_102 : decode cX12_copy 102 = .ok (.getfield 47, 3) := dB_3_3_25.2.1.1.1
theorem dX12_copy_105 : decode cX12_copy 105 = .ok (.bipush 6, 2) := dB_3_3_25.2.1.1.2
theorem dX12_copy_107 : decode cX12_copy 107 = .ok (.iload_n 1, 1) := dB_3_3_25.2.1.2.1
theorem dX12_copy_108 : decode cX12_copy 108 = .ok (.imul, 1) := dB_3_3_25.2.1.2.2
theorem dX12_copy_109 : decode cX12_copy 109 = .ok (.iload 4, 2) := dB_3_3_25.2.2.1.1
theorem dX12_copy_111 : decode cX12_copy 111 = .ok (.iadd, 1) := dB_3_3_25.2.2.1.2
theorem dX12_copy_112 : decode cX12_copy 112 = .ok (.iaload, 1) := dB_3_3_25.2.2.2.1
theorem dX12_copy_113 : decode cX12_copy 113 = .ok (.istore 8, 2) := dB_3_3_25.2.2.2.2
theorem dB_3_3_26 : ((((decode cX12_copy 115 = .ok (.iload 7, 2)) ∧ (decode cX12_copy 117 = .ok (.bipush (-9), 2))) ∧ ((decode cX12_copy 119 = .ok (.if_icmp .eq 10, 3)) ∧ (decode cX12_copy 122 = .ok (.iload 8, 2)))) ∧ (((decode cX12_copy 124 = .ok (.bipush (-9), 2)) ∧ (decode cX12_copy 126 = .ok (.if_icmp .ne 10, 3))) ∧ ((decode cX12_copy 129 = .ok (.aload_n 0, 1)) ∧ (decode cX12_copy 130 = .ok (.bipush (-11), 2))))) ∧ ((((decode cX12_copy 132 = .ok (.invokevirtual 245, 3)) ∧ (decode cX12_copy 135 = .ok (.ireturn, 1))) ∧ ((decode cX12_copy 136 = .ok (.iload_n 3, 1)) ∧ (decode cX12_copy 137 = .ok (.iload 6, 2)))) ∧ (((decode cX12_copy 139 = .ok (.iload 7, 2)) ∧ (decode cX12_copy 141 = .ok (.invokestatic 252, 3))) ∧ ((decode cX12_copy 144 = .ok (.ifCond .eq 15, 3)) ∧ (decode cX12_copy 147 = .ok (.iload 5, 2))))) := by first | decide +kernel | ((repeat' apply And.intro) <;> decide +kernel)
theorem dX12_copy_115 : decode cX12_copy 115 = .ok (.iload 7, 2) := dB_3_3_26.1.1.1.1
theorem dX12_copy_117 : decode cX12_copy 117 = .ok (.bipush (-9), 2) := dB_3_3_26.1.1.1.2
theorem dX12_copy_119 : decode cX12_copy 119 = .ok (.if_icmp .eq 10, 3) := dB_3_3_26.1.1.2.1
theorem dX12_copy_122 : decode cX12_copy 122 = .ok (.iload 8, 2) := dB_3_3_26.1.1.2.2
theorem dX12_copy_124 : decode cX12_copy 124 = .ok (.bipush (-9), 2) := dB_3_3_26.1.2.1.1
theorem dX12_copy_126 : decode cX12_copy 126 = .ok (.if_icmp .ne 10, 3) := dB_3_3_26.1.2.1.2
theorem dX12_copy_129 : decode cX12_copy 129 = .ok (.aload_n 0, 1) := dB_3_3_26.1.2.2.1
theorem dX12_copy_130 : decode cX12_copy 130 = .ok (.bipush (-11), 2) := dB_3_3_26.1.2.2.2
theorem dX12_copy_132 : decode cX12_copy 132 = .ok (.invokevirtual 245, 3) := dB_3_3_26.2.1.1.1
theorem dX12_copy_135 : decode cX12_copy 135 = .ok (.ireturn, 1) := dB_3_3_26.2.1.1.2
theorem dX12_copy_136 : decode cX12_copy 136 = .ok (.iload_n 3, 1) := dB_3_3_26.2.1.2.1
theorem dX12_copy_137 : decode cX12_copy 137 = .ok (.iload 6, 2) := dB_3_3_26.2.1.2.2
theorem dX12_copy_139 : decode cX12_copy 139 = .ok (.iload 7, 2) := dB_3_3_26.2.2.1.1
theorem dX12_copy_141 : decode cX12_copy 141 = .ok (.invokestatic 252, 3) := dB_3_3_26.2.2.1.2
theorem dX12_copy_144 : decode cX12_copy 144 = .ok (.ifCond .eq 15, 3) := dB_3_3_26.2.2.2.1
theorem dX12_copy_147 : decode cX12_copy 147 = .ok (.iload 5, 2) := dB_3_3_26.2.2.2.2
theorem dB_3_3_27 : ((((decode cX12_copy 149 = .ok (.iload 6, 2)) ∧ (decode cX12_copy 151 = .ok (.iload 8, 2))) ∧ ((decode cX12_copy 153 = .ok (.invokestatic 252, 3)) ∧ (decode cX12_copy 156 = .ok (.ifCond .ne 10, 3)))) ∧ (((decode cX12_copy 159 = .ok (.aload_n 0, 1)) ∧ (decode cX12_copy 160 = .ok (.bipush (-12), 2))) ∧ ((decode cX12_copy 162 = .ok (.invokevirtual 245, 3)) ∧ (decode cX12_copy 165 = .ok (.ireturn, 1))))) ∧ ((((decode cX12_copy 166 = .ok (.iconst 0, 1)) ∧ (decode cX12_copy 167 = .ok (.istore 9, 2))) ∧ ((decode cX12_copy 169 = .ok (.iload 9, 2)) ∧ (decode cX12_copy 171 = .ok (.iload 6, 2)))) ∧ (((decode cX12_copy 173 = .ok (.if_icmp .ge 34, 3)) ∧ (decode cX12_copy 176 = .ok (.aload_n 0, 1))) ∧ ((decode cX12_copy 177 = .ok (.getfield 54, 3)) ∧ (decode cX12_copy 180 = .ok (.iload 9, 2))))) := by first | decide +kernel | ((repeat' apply And.intro) <;> decide +kernel)
theorem dX12_copy_149 : decode cX12_copy 149 = .ok (.iload 6, 2) := dB_3_3_27.1.1.1.1
theorem dX12_copy_151 : decode cX12_copy 151 = .ok (.iload 8, 2) := dB_3_3_27.1.1.1.2
theorem dX12_copy_153 : decode cX12_copy 153 = .ok (.invokestatic 252, 3) := dB_3_3_27.1.1.2.1
theorem dX12_copy_156 : decode cX12_copy 156 = .ok (.ifCond .ne 10, 3) := dB_3_3_27.1.1.2.2
theorem dX12_copy_159 : decode cX12_copy 159 = .ok (.aload_n 0, 1) := dB_3_3_27.1.2.1.1
theorem dX12_copy_160 : decode cX12_copy 160 = .ok (.bipush (-12), 2) := dB_3_3_27.1.2.1.2
theorem dX12_copy_162 : decode cX12_copy 162 = .ok (.invokevirtual 245, 3) := dB_3_3_27.1.2.2.1
theorem dX12_copy_165 : decode cX12_copy 165 = .ok (.ireturn, 1) := dB_3_3_27.1.2.2.2
theorem dX12_copy_166 : decode cX12_copy 166 = .ok (.iconst 0, 1) := dB_3_3_27.2.1.1.1
theorem dX12_copy_167 : decode cX12_copy 167 = .ok (.istore 9, 2) := dB_3_3_27.2.1.1.2
theorem dX12_copy_169 : decode cX12_copy 169 = .ok (.iload 9, 2) := dB_3_3_27.2.1.2.1
theorem dX12_copy_171 : decode cX12_copy 171 = .ok (.iload 6, 2) := dB_3_3_27.2.1.2.2
theorem dX12_copy_173 : decode cX12_copy 173 = .ok (.if_icmp .ge 34, 3) := dB_3_3_27.2.2.1.1
theorem dX12_copy_176 : decode cX12_copy 176 = .ok (.aload_n 0, 1) := dB_3_3_27.2.2.1.2
theorem dX12_copy_177 : decode cX12_copy 177 = .ok (.getfield 54, 3) := dB_3_3_27.2.2.2.1
theorem dX12_copy_180 : decode cX12_copy 180 = .ok (.iload 9, 2) := dB_3_3_27.2.2.2.2
theorem dB_3_3_28 : ((((decode cX12_copy 182 = .ok (.aload_n 0, 1)) ∧ (decode cX12_copy 183 = .ok (.getfield 50, 3))) ∧ ((decode cX12_copy 186 = .ok (.bipush 30, 2)) ∧ (decode cX12_copy 188 = .ok (.iload_n 1, 1)))) ∧ (((decode cX12_copy 189 = .ok (.imul, 1)) ∧ (decode cX12_copy 190 = .ok (.iconst 5, 1))) ∧ ((decode cX12_copy 191 = .ok (.iload_n 2, 1)) ∧ (decode cX12_copy 192 = .ok (.imul, 1))))) ∧ ((((decode cX12_copy 193 = .ok (.iadd, 1)) ∧ (decode cX12_copy 194 = .ok (.iload_n 3, 1))) ∧ ((decode cX12_copy 195 = .ok (.iadd, 1)) ∧ (decode cX12_copy 196 = .ok (.iload 9, 2)))) ∧ (((decode cX12_copy 198 = .ok (.iadd, 1)) ∧ (decode cX12_copy 199 = .ok (.laload, 1))) ∧ ((decode cX12_copy 200 = .ok (.lastore, 1)) ∧ (decode cX12_copy 201 = .ok (.iinc 9 1, 3))))) := by first | decide +kernel | ((repeat' apply And.intro) <;> decide +kernel)
theorem dX12_copy_182 : decode cX12_copy 182 = .ok (.aload_n 0, 1) := dB_3_3_28.1.1.1.1
theorem dX12_copy_183 : decode cX12_copy 183 = .ok (.getfield 50, 3) := dB_3_3_28.1.1.1.2
theorem dX12_copy_186 : decode cX12_copy 186 = .ok (.bipush 30, 2) := dB_3_3_28.1.1.2.1
theorem dX12_copy_188 : decode cX12_copy 188 = .ok (.iload_n 1, 1) := dB_3_3_28.1.1.2.2
theorem dX12_copy_189 : decode cX12_copy 189 = .ok (.imul, 1) := dB_3_3_28.1.2.1.1
theorem dX12_copy_190 : decode cX12_copy 190 = .ok (.iconst 5, 1) := dB_3_3_28.1.2.1.2
theorem dX12_copy_191 : decode cX12_copy 191 = .ok (.iload_n 2, 1) := dB_3_3_28.1.2.2.1
theorem dX12_copy_192 : decode cX12_copy 192 = .ok (.imul, 1) := dB_3_3_28.1.2.2.2
theorem dX12_copy_193 : decode cX12_copy 193 = .ok (.iadd, 1) := dB_3_3_28.2.1.1.1
theorem dX12_copy_194 : decode cX12_copy 194 = .ok (.iload_n 3, 1) := dB_3_3_28.2.1.1.2
theorem dX12_copy_195 : decode cX12_copy 195 = .ok (.iadd, 1) := dB_3_3_28.2.1.2.1
theorem dX12_copy_196 : decode cX12_copy 196 = .ok (.iload 9, 2) := dB_3_3_28.2.1.2.2
theorem dX12_copy_198 : decode cX12_copy 198 = .ok (.iadd, 1) := dB_3_3_28.2.2.1.1
theorem dX12_copy_199 : decode cX12_copy 199 = .ok (.laload, 1) := dB_3_3_28.2.2.1.2
theorem dX12_copy_200 : decode cX12_copy 200 = .ok (.lastore, 1) := dB_3_3_28.2.2.2.1
theorem dX12_copy_201 : decode cX12_copy 201 = .ok (.iinc 9 1, 3) := dB_3_3_28.2.2.2.2
theorem dB_3_3_29 : ((((decode cX12_copy 204 = .ok (.goto (-35), 3)) ∧ (decode cX12_copy 207 = .ok (.iconst 0, 1))) ∧ ((decode cX12_copy 208 = .ok (.istore 9, 2)) ∧ (decode cX12_copy 210 = .ok (.iload 9, 2)))) ∧ (((decode cX12_copy 212 = .ok (.iload 6, 2)) ∧ (decode cX12_copy 214 = .ok (.if_icmp .ge 36, 3))) ∧ ((decode cX12_copy 217 = .ok (.aload_n 0, 1)) ∧ (decode cX12_copy 218 = .ok (.getfield 50, 3))))) ∧ ((((decode cX12_copy 221 = .ok (.bipush 30, 2)) ∧ (decode cX12_copy 223 = .ok (.iload_n 1, 1))) ∧ ((decode cX12_copy 224 = .ok (.imul, 1)) ∧ (decode cX12_copy 225 = .ok (.iconst 5, 1)))) ∧ (((decode cX12_copy 226 = .ok (.iload 4, 2)) ∧ (decode cX12_copy 228 = .ok (.imul, 1))) ∧ ((decode cX12_copy 229 = .ok (.iadd, 1)) ∧ (decode cX12_copy 230 = .ok (.iload 5, 2))))) := by first | decide +kernel | ((repeat' apply And.intro) <;> decide +kernel)
theorem dX12_copy_204 : decode cX12_copy 204 = .ok (.goto (-35), 3) := dB_3_3_29.1.1.1.1
theorem dX12_copy_207 : decode cX12_copy 207 = .ok (.iconst 0, 1) := dB_3_3_29.1.1.1.2
theorem dX12_copy_208 : decode cX12_copy 208 = .ok (.istore 9, 2) := dB_3_3_29.1.1.2.1
theorem dX12_copy_210 : decode cX12_copy 210 = .ok (.iload 9, 2) := dB_3_3_29.1.1.2.2
theorem dX12_copy_212 : decode cX12_copy 212 = .ok (.iload 6, 2) := dB_3_3_29.1.2.1.1
theorem dX12_copy_214 : decode cX12_copy 214 = .ok (.if_icmp .ge 36, 3) := dB_3_3_29.1.2.1.2
theorem dX12_copy_217 : decode cX12_copy 217 = .ok (.aload_n 0, 1) := dB_3_3_29.1.2.2.1
theorem dX12_copy_218 : decode cX12_copy 218 = .ok (.getfield 50, 3) := dB_3_3_29.1.2.2.2
theorem dX12_copy_221 : decode cX12_copy 221 = .ok (.bipush 30, 2) := dB_3_3_29.2.1.1.1
theorem dX12_copy_223 : decode cX12_copy 223 = .ok (.iload_n 1, 1) := dB_3_3_29.2.1.1.2
theorem dX12_copy_224 : decode cX12_copy 224 = .ok (.imul, 1) := dB_3_3_29.2.1.2.1
theorem dX12_copy_225 : decode cX12_copy 225 = .ok (.iconst 5, 1) := dB_3_3_29.2.1.2.2
theorem dX12_copy_226 : decode cX12_copy 226 = .ok (.iload 4, 2) := dB_3_3_29.2.2.1.1
theorem dX12_copy_228 : decode cX12_copy 228 = .ok (.imul, 1) := dB_3_3_29.2.2.1.2
theorem dX12_copy_229 : decode cX12_copy 229 = .ok (.iadd, 1) := dB_3_3_29.2.2.2.1
theorem dX12_copy_230 : decode cX12_copy 230 = .ok (.iload 5, 2) := dB_3_3_29.2.2.2.2
theorem dB_3_3_30 : ((((decode cX12_copy 232 = .ok (.iadd, 1)) ∧ (decode cX12_copy 233 = .ok (.iload 9, 2))) ∧ ((decode cX12_copy 235 = .ok (.iadd, 1)) ∧ (decode cX12_copy 236 = .ok (.aload_n 0, 1)))) ∧ (((decode cX12_copy 237 = .ok (.getfield 54, 3)) ∧ (decode cX12_copy 240 = .ok (.iload 9, 2))) ∧ ((decode cX12_copy 242 = .ok (.laload, 1)) ∧ (decode cX12_copy 243 = .ok (.lastore, 1))))) ∧ ((((decode cX12_copy 244 = .ok (.iinc 9 1, 3)) ∧ (decode cX12_copy 247 = .ok (.goto (-37), 3))) ∧ ((decode cX12_copy 250 = .ok (.iload 6, 2)) ∧ (decode cX12_copy 252 = .ok (.ireturn, 1)))) ∧ (((decode cX12_item 0 = .ok (.aload_n 0, 1)) ∧ (decode cX12_item 1 = .ok (.iconst 0, 1))) ∧ ((decode cX12_item 2 = .ok (.putfield 85, 3)) ∧ (decode cX12_item 5 = .ok (.aload_n 0, 1))))) := by first | decide +kernel | ((repeat' apply And.intro) <;> decide +kernel)
theorem dX12_copy_232 : decode cX12_copy 232 = .ok (.iadd, 1) := dB_3_3_30.1.1.1.1
theorem dX12_copy_233 : decode cX12_copy 233 = .ok (.iload 9, 2) := dB_3_3_30.1.1.1.2
theorem dX12_copy_235 : decode cX12_copy 235 = .ok (.iadd, 1) := dB_3_3_30.1.1.2.1
theorem dX12_copy_236 : decode cX12_copy 236 = .ok (.aload_n 0, 1) := dB_3_3_30.1.1.2.2
theorem dX12_copy_237 : decode cX12_copy 237 = .ok (.getfield 54, 3) := dB_3_3_30.1.2.1.1
theorem dX12_copy_240 : decode cX12_copy 240 = .ok (.iload 9, 2) := dB_3_3_30.1.2.1.2
theorem dX12_copy_242 : decode cX12_copy 242 = .ok (.laload, 1) := dB_3_3_30.1.2.2.1
theorem dX12_copy_243 : decode cX12_copy 243 = .ok (.lastore, 1) := dB_3_3_30.1.2.2.2
theorem dX12_copy_244 : decode cX12_copy 244 = .ok (.iinc 9 1, 3) := dB_3_3_30.2.1.1.1
theorem dX12_copy_247 : decode cX12_copy 247 = .ok (.goto (-37), 3) := dB_3_3_30.2.1.1.2
theorem dX12_copy_250 : decode cX12_copy 250 = .ok (.iload 6, 2) := dB_3_3_30.2.1.2.1
theorem dX12_copy_252 : decode cX12_copy 252 = .ok (.ireturn, 1) := dB_3_3_30.2.1.2.2
theorem dX12_item_0 : decode cX12_item 0 = .ok (.aload_n 0, 1) := dB_3_3_30.2.2.1.1
theorem dX12_item_1 : decode cX12_item 1 = .ok (.iconst 0, 1) := dB_3_3_30.2.2.1.2
theorem dX12_item_2 : decode cX12_item 2 = .ok (.putfield 85, 3) := dB_3_3_30.2.2.2.1
theorem dX12_item_5 : decode cX12_item 5 = .ok (.aload_n 0, 1) := dB_3_3_30.2.2.2.2
theorem dB_3_3_31 : ((((decode cX12_item 6 = .ok (.aload_n 0, 1)) ∧ (decode cX12_item 7 = .ok (.iload_n 1, 1))) ∧ ((decode cX12_item 8 = .ok (.iload_n 2, 1)) ∧ (decode cX12_item 9 = .ok (.iload_n 3, 1)))) ∧ (((decode cX12_item 10 = .ok (.iload 4, 2)) ∧ (decode cX12_item 12 = .ok (.invokevirtual 248, 3))) ∧ ((decode cX12_item 15 = .ok (.putfield 240, 3)) ∧ (decode cX12_item 18 = .ok (.aload_n 0, 1))))) ∧ ((((decode cX12_item 19 = .ok (.getfield 240, 3)) ∧ (decode cX12_item 22 = .ok (.ifCond .ge 7, 3))) ∧ ((decode cX12_item 25 = .ok (.lconst 0, 1)) ∧ (decode cX12_item 26 = .ok (.goto 19, 3)))) ∧ (((decode cX12_item 29 = .ok (.aload_n 0, 1)) ∧ (decode cX12_item 30 = .ok (.getfield 50, 3))) ∧ ((decode cX12_item 33 = .ok (.bipush 30, 2)) ∧ (decode cX12_item 35 = .ok (.iload_n 1, 1))))) := by first | decide +kernel | ((repeat' apply And.intro) <;> decide +kernel)
theorem dX12_item_6 : decode cX12_item 6 = .ok (.aload_n 0, 1) := dB_3_3_31.1.1.1.1
theorem dX12_item_7 : decode cX12_item 7 = .ok (.iload_n 1, 1) := dB_3_3_31.1.1.1.2
theorem dX12_item_8 : decode cX12_item 8 = .ok (.iload_n 2, 1) := dB_3_3_31.1.1.2.1
theorem dX12_item_9 : decode cX12_item 9 = .ok (.iload_n 3, 1) := dB_3_3_31.1.1.2.2
theorem dX12_item_10 : decode cX12_item 10 = .ok (.iload 4, 2) := dB_3_3_31.1.2.1.1
theorem dX12_item_12 : decode cX12_item 12 = .ok (.invokevirtual 248, 3) := dB_3_3_31.1.2.1.2
theorem dX12_item_15 : decode cX12_item 15 = .ok (.putfield 240, 3) := dB_3_3_31.1.2.2.1
theorem dX12_item_18 : decode cX12_item 18 = .ok (.aload_n 0, 1) := dB_3_3_31.1.2.2.2
theorem dX12_item_19 : decode cX12_item 19 = .ok (.getfield 240, 3) := dB_3_3_31.2.1.1.1
theorem dX12_item_22 : decode cX12_item 22 = .ok (.ifCond .ge 7, 3) := dB_3_3_31.2.1.1.2
theorem dX12_item_25 : decode cX12_item 25 = .ok (.lconst 0, 1) := dB_3_3_31.2.1.2.1
theorem dX12_item_26 : decode cX12_item 26 = .ok (.goto 19, 3) := dB_3_3_31.2.1.2.2
theorem dX12_item_29 : decode cX12_item 29 = .ok (.aload_n 0, 1) := dB_3_3_31.2.2.1.1
theorem dX12_item_30 : decode cX12_item 30 = .ok (.getfield 50, 3) := dB_3_3_31.2.2.1.2
theorem dX12_item_33 : decode cX12_item 33 = .ok (.bipush 30, 2) := dB_3_3_31.2.2.2.1
theorem dX12_item_35 : decode cX12_item 35 = .ok (.iload_n 1, 1) := dB_3_3_31.2.2.2.2
theorem dB_3_3_32 : ((((decode cX12_item 36 = .ok (.imul, 1)) ∧ (decode cX12_item 37 = .ok (.iconst 5, 1))) ∧ ((decode cX12_item 38 = .ok (.iload_n 3, 1)) ∧ (decode cX12_item 39 = .ok (.imul, 1)))) ∧ (((decode cX12_item 40 = .ok (.iadd, 1)) ∧ (decode cX12_item 41 = .ok (.iload 4, 2))) ∧ ((decode cX12_item 43 = .ok (.iadd, 1)) ∧ (decode cX12_item 44 = .ok (.laload, 1))))) ∧ ((((decode cX12_item 45 = .ok (.lreturn, 1)) ∧ (decode cX12_read 0 = .ok (.aload_n 0, 1))) ∧ ((decode cX12_read 1 = .ok (.iconst 0, 1)) ∧ (decode cX12_read 2 = .ok (.putfield 85, 3)))) ∧ (((decode cX12_read 5 = .ok (.aload_n 0, 1)) ∧ (decode cX12_read 6 = .ok (.iconst 0, 1))) ∧ ((decode cX12_read 7 = .ok (.putfield 240, 3)) ∧ (decode cX12_read 10 = .ok (.iload_n 1, 1))))) := by first | decide +kernel | ((repeat' apply And.intro) <;> decide +kernel)
theorem dX12_item_36 : decode cX12_item 36 = .ok (.imul, 1) := dB_3_3_32.1.1.1.1
theorem dX12_item_37 : decode cX12_item 37 = .ok (.iconst 5, 1) := dB_3_3_32.1.1.1.2
theorem dX12_item_38 : decode cX12_item 38 = .ok (.iload_n 3, 1) := dB_3_3_32.1.1.2.1
theorem dX12_item_39 : decode cX12_item 39 = .ok (.imul, 1) := dB_3_3_32.1.1.2.2
theorem dX12_item_40 : decode cX12_item 40 = .ok (.iadd, 1) := dB_3_3_32.1.2.1.1
theorem dX12_item_41 : decode cX12_item 41 = .ok (.iload 4, 2) := dB_3_3_32.1.2.1.2
theorem dX12_item_43 : decode cX12_item 43 = .ok (.iadd, 1) := dB_3_3_32.1.2.2.1
theorem dX12_item_44 : decode cX12_item 44 = .ok (.laload, 1) := dB_3_3_32.1.2.2.2
theorem dX12_item_45 : decode cX12_item 45 = .ok (.lreturn, 1) := dB_3_3_32.2.1.1.1
theorem dX12_read_0 : decode cX12_read 0 = .ok (.aload_n 0, 1) := dB_3_3_32.2.1.1.2
theorem dX12_read_1 : decode cX12_read 1 = .ok (.iconst 0, 1) := dB_3_3_32.2.1.2.1
theorem dX12_read_2 : decode cX12_read 2 = .ok (.putfield 85, 3) := dB_3_3_32.2.1.2.2
theorem dX12_read_5 : decode cX12_read 5 = .ok (.aload_n 0, 1) := dB_3_3_32.2.2.1.1
theorem dX12_read_6 : decode cX12_read 6 = .ok (.iconst 0, 1) := dB_3_3_32.2.2.1.2
theorem dX12_read_7 : decode cX12_read 7 = .ok (.putfield 240, 3) := dB_3_3_32.2.2.2.1
theorem dX12_read_10 : decode cX12_read 10 = .ok (.iload_n 1, 1) := dB_3_3_32.2.2.2.2
theorem dB_3_3_33 : ((((decode cX12_read 11 = .ok (.i2l, 1)) ∧ (decode cX12_read 12 = .ok (.lconst 0, 1))) ∧ ((decode cX12_read 13 = .ok (.ldc2_w 243, 3)) ∧ (decode cX12_read 16 = .ok (.invokestatic 91, 3)))) ∧ (((decode cX12_read 19 = .ok (.ifCond .ne 9, 3)) ∧ (decode cX12_read 22 = .ok (.aload_n 0, 1))) ∧ ((decode cX12_read 23 = .ok (.iconst (-1), 1)) ∧ (decode cX12_read 24 = .ok (.invokevirtual 245, 3))))) ∧ ((((decode cX12_read 27 = .ok (.ireturn, 1)) ∧ (decode cX12_read 28 = .ok (.aload_n 0, 1))) ∧ ((decode cX12_read 29 = .ok (.getfield 38, 3)) ∧ (decode cX12_read 32 = .ok (.iload_n 1, 1)))) ∧ (((decode cX12_read 33 = .ok (.baload, 1)) ∧ (decode cX12_read 34 = .ok (.ifCond .ne 11, 3))) ∧ ((decode cX12_read 37 = .ok (.aload_n 0, 1)) ∧ (decode cX12_read 38 = .ok (.bipush (-11), 2))))) := by first | decide +kernel | ((repeat' apply And.intro) <;> decide +kernel)
theorem dX12_read_11 : decode cX12_read 11 = .ok (.i2l, 1) := dB_3_3_33.1.1.1.1
theorem dX12_read_12 : decode cX12_read 12 = .ok (.lconst 0, 1) := dB_3_3_33.1.1.1.2
theorem dX12_read_13 : decode cX12_read 13 = .ok (.ldc2_w 243, 3) := dB_3_3_33.1.1.2.1
theorem dX12_read_16 : decode cX12_read 16 = .ok (.invokestatic 91, 3) := dB_3_3_33.1.1.2.2
theorem dX12_read_19 : decode cX12_read 19 = .ok (.ifCond .ne 9, 3) := dB_3_3_33.1.2.1.1
theorem dX12_read_22 : decode cX12_read 22 = .ok (.aload_n 0, 1) := dB_3_3_33.1.2.1.2
theorem dX12_read_23 : decode cX12_read 23 = .ok (.iconst (-1), 1) := dB_3_3_33.1.2.2.1
theorem dX12_read_24 : decode cX12_read 24 = .ok (.invokevirtual 245, 3) := dB_3_3_33.1.2.2.2
theorem dX12_read_27 : decode cX12_read 27 = .ok (.ireturn, 1) := dB_3_3_33.2.1.1.1
theorem dX12_read_28 : decode cX12_read 28 = .ok (.aload_n 0, 1) := dB_3_3_33.2.1.1.2
theorem dX12_read_29 : decode cX12_read 29 = .ok (.getfield 38, 3) := dB_3_3_33.2.1.2.1
theorem dX12_read_32 : decode cX12_read 32 = .ok (.iload_n 1, 1) := dB_3_3_33.2.1.2.2
theorem dX12_read_33 : decode cX12_read 33 = .ok (.baload, 1) := dB_3_3_33.2.2.1.1
theorem dX12_read_34 : decode cX12_read 34 = .ok (.ifCond .ne 11, 3) := dB_3_3_33.2.2.1.2
theorem dX12_read_37 : decode cX12_read 37 = .ok (.aload_n 0, 1) := dB_3_3_33.2.2.2.1
theorem dX12_read_38 : decode cX12_read 38 = .ok (.bipush (-11), 2) := dB_3_3_33.2.2.2.2
theorem dB_3_3_34 : ((((decode cX12_read 40 = .ok (.putfield 240, 3)) ∧ (decode cX12_read 43 = .ok (.iconst 0, 1))) ∧ ((decode cX12_read 44 = .ok (.ireturn, 1)) ∧ (decode cX12_read 45 = .ok (.iconst 0, 1)))) ∧ (((decode cX12_read 46 = .ok (.istore_n 2, 1)) ∧ (decode cX12_read 47 = .ok (.iconst 0, 1))) ∧ ((decode cX12_read 48 = .ok (.istore_n 3, 1)) ∧ (decode cX12_read 49 = .ok (.iload_n 3, 1))))) ∧ ((((decode cX12_read 50 = .ok (.aload_n 0, 1)) ∧ (decode cX12_read 51 = .ok (.getfield 44, 3))) ∧ ((decode cX12_read 54 = .ok (.iload_n 1, 1)) ∧ (decode cX12_read 55 = .ok (.iaload, 1)))) ∧ (((decode cX12_read 56 = .ok (.if_icmp .ge 180, 3)) ∧ (decode cX12_read 59 = .ok (.aload_n 0, 1))) ∧ ((decode cX12_read 60 = .ok (.getfield 47, 3)) ∧ (decode cX12_read 63 = .ok (.bipush 6, 2))))) := by first | decide +kernel | ((repeat' apply And.intro) <;> decide +kernel)
theorem dX12_read_40 : decode cX12_read 40 = .ok (.putfield 240, 3) := dB_3_3_34.1.1.1.1
theorem dX12_read_43 : decode cX12_read 43 = .ok (.iconst 0, 1) := dB_3_3_34.1.1.1.2
theorem dX12_read_44 : decode cX12_read 44 = .ok (.ireturn, 1) := dB_3_3_34.1.1.2.1
theorem dX12_read_45 : decode cX12_read 45 = .ok (.iconst 0, 1) := dB_3_3_34.1.1.2.2
theorem dX12_read_46 : decode cX12_read 46 = .ok (.istore_n 2, 1) := dB_3_3_34.1.2.1.1
theorem dX12_read_47 : decode cX12_read 47 = .ok (.iconst 0, 1) := dB_3_3_34.1.2.1.2
theorem dX12_read_48 : decode cX12_read 48 = .ok (.istore_n 3, 1) := dB_3_3_34.1.2.2.1
theorem dX12_read_49 : decode cX12_read 49 = .ok (.iload_n 3, 1) := dB_3_3_34.1.2.2.2
theorem dX12_read_50 : decode cX12_read 50 = .ok (.aload_n 0, 1) := dB_3_3_34.2.1.1.1
theorem dX12_read_51 : decode cX12_read 51 = .ok (.getfield 44, 3) := dB_3_3_34.2.1.1.2
theorem dX12_read_54 : decode cX12_read 54 = .ok (.iload_n 1, 1) := dB_3_3_34.2.1.2.1
theorem dX12_read_55 : decode cX12_read 55 = .ok (.iaload, 1) := dB_3_3_34.2.1.2.2
theorem dX12_read_56 : decode cX12_read 56 = .ok (.if_icmp .ge 180, 3) := dB_3_3_34.2.2.1.1
theorem dX12_read_59 : decode cX12_read 59 = .ok (.aload_n 0, 1) := dB_3_3_34.2.2.1.2
theorem dX12_read_60 : decode cX12_read 60 = .ok (.getfield 47, 3) := dB_3_3_34.2.2.2.1
theorem dX12_read_63 : decode cX12_read 63 = .ok (.bipush 6, 2) := dB_3_3_34.2.2.2.2
theorem dB_3_3_35 : ((((decode cX12_read 65 = .ok (.iload_n 1, 1)) ∧ (decode cX12_read 66 = .ok (.imul, 1))) ∧ ((decode cX12_read 67 = .ok (.iload_n 3, 1)) ∧ (decode cX12_read 68 = .ok (.iadd, 1)))) ∧ (((decode cX12_read 69 = .ok (.iaload, 1)) ∧ (decode cX12_read 70 = .ok (.istore 4, 2))) ∧ ((decode cX12_read 72 = .ok (.bipush 30, 2)) ∧ (decode cX12_read 74 = .ok (.iload_n 1, 1))))) ∧ ((((decode cX12_read 75 = .ok (.imul, 1)) ∧ (decode cX12_read 76 = .ok (.iconst 5, 1))) ∧ ((decode cX12_read 77 = .ok (.iload_n 3, 1)) ∧ (decode cX12_read 78 = .ok (.imul, 1)))) ∧ (((decode cX12_read 79 = .ok (.iadd, 1)) ∧ (decode cX12_read 80 = .ok (.istore 5, 2))) ∧ ((decode cX12_read 82 = .ok (.iload 4, 2)) ∧ (decode cX12_read 84 = .ok (.bipush (-9), 2))))) := by first | decide +kernel | ((repeat' apply And.intro) <;> decide +kernel)
theorem dX12_read_65 : decode cX12_read 65 = .ok (.iload_n 1, 1) := dB_3_3_35.1.1.1.1
theorem dX12_read_66 : decode cX12_read 66 = .ok (.imul, 1) := dB_3_3_35.1.1.1.2
theorem dX12_read_67 : decode cX12_read 67 = .ok (.iload_n 3, 1) := dB_3_3_35.1.1.2.1
theorem dX12_read_68 : decode cX12_read 68 = .ok (.iadd, 1) := dB_3_3_35.1.1.2.2
theorem dX12_read_69 : decode cX12_read 69 = .ok (.iaload, 1) := dB_3_3_35.1.2.1.1
theorem dX12_read_70 : decode cX12_read 70 = .ok (.istore 4, 2) := dB_3_3_35.1.2.1.2
theorem dX12_read_72 : decode cX12_read 72 = .ok (.bipush 30, 2) := dB_3_3_35.1.2.2.1
theorem dX12_read_74 : decode cX12_read 74 = .ok (.iload_n 1, 1) := dB_3_3_35.1.2.2.2
theorem dX12_read_75 : decode cX12_read 75 = .ok (.imul, 1) := dB_3_3_35.2.1.1.1
theorem dX12_read_76 : decode cX12_read 76 = .ok (.iconst 5, 1) := dB_3_3_35.2.1.1.2
theorem dX12_read_77 : decode cX12_read 77 = .ok (.iload_n 3, 1) := dB_3_3_35.2.1.2.1
theorem dX12_read_78 : decode cX12_read 78 = .ok (.imul, 1) := dB_3_3_35.2.1.2.2
theorem dX12_read_79 : decode cX12_read 79 = .ok (.iadd, 1) := dB_3_3_35.2.2.1.1
theorem dX12_read_80 : decode cX12_read 80 = .ok (.istore 5, 2) := dB_3_3_35.2.2.1.2
theorem dX12_read_82 : decode cX12_read 82 = .ok (.iload 4, 2) := dB_3_3_35.2.2.2.1
theorem dX12_read_84 : decode cX12_read 84 = .ok (.bipush (-9), 2) := dB_3_3_35.2.2.2.2
theorem dB_3_3_36 : ((((decode cX12_read 86 = .ok (.if_icmp .ne 8, 3)) ∧ (decode cX12_read 89 = .ok (.bipush (-11), 2))) ∧ ((decode cX12_read 91 = .ok (.goto 61, 3)) ∧ (decode cX12_read 94 = .ok (.iload 4, 2)))) ∧ (((decode cX12_read 96 = .ok (.iconst 5, 1)) ∧ (decode cX12_read 97 = .ok (.if_icmp .ge 8, 3))) ∧ ((decode cX12_read 100 = .ok (.bipush (-12), 2)) ∧ (decode cX12_read 102 = .ok (.goto 50, 3))))) ∧ ((((decode cX12_read 105 = .ok (.aload_n 0, 1)) ∧ (decode cX12_read 106 = .ok (.aload_n 0, 1))) ∧ ((decode cX12_read 107 = .ok (.getfield 50, 3)) ∧ (decode cX12_read 110 = .ok (.iload 5, 2)))) ∧ (((decode cX12_read 112 = .ok (.laload, 1)) ∧ (decode cX12_read 113 = .ok (.aload_n 0, 1))) ∧ ((decode cX12_read 114 = .ok (.getfield 50, 3)) ∧ (decode cX12_read 117 = .ok (.iload 5, 2))))) := by first | decide +kernel | ((repeat' apply And.intro) <;> decide +kernel)
theorem dX12_read_86 : decode cX12_read 86 = .ok (.if_icmp .ne 8, 3) := dB_3_3_36.1.1.1.1
theorem dX12_read_89 : decode cX12_read 89 = .ok (.bipush (-11), 2) := dB_3_3_36.1.1.1.2
theorem dX12_read_91 : decode cX12_read 91 = .ok (.goto 61, 3) := dB_3_3_36.1.1.2.1
theorem dX12_read_94 : decode cX12_read 94 = .ok (.iload 4, 2) := dB_3_3_36.1.1.2.2
theorem dX12_read_96 : decode cX12_read 96 = .ok (.iconst 5, 1) := dB_3_3_36.1.2.1.1
theorem dX12_read_97 : decode cX12_read 97 = .ok (.if_icmp .ge 8, 3) := dB_3_3_36.1.2.1.2
theorem dX12_read_100 : decode cX12_read 100 = .ok (.bipush (-12), 2) := dB_3_3_36.1.2.2.1
theorem dX12_read_102 : decode cX12_read 102 = .ok (.goto 50, 3) := dB_3_3_36.1.2.2.2
theorem dX12_read_105 : decode cX12_read 105 = .ok (.aload_n 0, 1) := dB_3_3_36.2.1.1.1
theorem dX12_read_106 : decode cX12_read 106 = .ok (.aload_n 0, 1) := dB_3_3_36.2.1.1.2
theorem dX12_read_107 : decode cX12_read 107 = .ok (.getfield 50, 3) := dB_3_3_36.2.1.2.1
theorem dX12_read_110 : decode cX12_read 110 = .ok (.iload 5, 2) := dB_3_3_36.2.1.2.2
theorem dX12_read_112 : decode cX12_read 112 = .ok (.laload, 1) := dB_3_3_36.2.2.1.1
theorem dX12_read_113 : decode cX12_read 113 = .ok (.aload_n 0, 1) := dB_3_3_36.2.2.1.2
theorem dX12_read_114 : decode cX12_read 114 = .ok (.getfield 50, 3) := dB_3_3_36.2.2.2.1
theorem dX12_read_117 : decode cX12_read 117 = .ok (.iload 5, 2) := dB_3_3_36.2.2.2.2
theorem dB_3_3_37 : ((((decode cX12_read 119 = .ok (.iconst 1, 1)) ∧ (decode cX12_read 120 = .ok (.iadd, 1))) ∧ ((decode cX12_read 121 = .ok (.laload, 1)) ∧ (decode cX12_read 122 = .ok (.aload_n 0, 1)))) ∧ (((decode cX12_read 123 = .ok (.getfield 50, 3)) ∧ (decode cX12_read 126 = .ok (.iload 5, 2))) ∧ ((decode cX12_read 128 = .ok (.iconst 2, 1)) ∧ (decode cX12_read 129 = .ok (.iadd, 1))))) ∧ ((((decode cX12_read 130 = .ok (.laload, 1)) ∧ (decode cX12_read 131 = .ok (.aload_n 0, 1))) ∧ ((decode cX12_read 132 = .ok (.getfield 50, 3)) ∧ (decode cX12_read 135 = .ok (.iload 5, 2)))) ∧ (((decode cX12_read 137 = .ok (.iconst 3, 1)) ∧ (decode cX12_read 138 = .ok (.iadd, 1))) ∧ ((decode cX12_read 139 = .ok (.laload, 1)) ∧ (decode cX12_read 140 = .ok (.aload_n 0, 1))))) := by first | decide +kernel | ((repeat' apply And.intro) <;> decide +kernel)
theorem dX12_read_119 : decode cX12_read 119 = .ok (.iconst 1, 1) := dB_3_3_37.1.1.1.1
theorem dX12_read_120 : decode cX12_read 120 = .ok (.iadd, 1) := dB_3_3_37.1.1.1.2
theorem dX12_read_121 : decode cX12_read 121 = .ok (.laload, 1) := dB_3_3_37.1.1.2.1
theorem dX12_read_122 : decode cX12_read 122 = .ok (.aload_n 0, 1) := dB_3_3_37.1.1.2.2
theorem dX12_read_123 : decode cX12_read 123 = .ok (.getfield 50, 3) := dB_3_3_37.1.2.1.1
theorem dX12_read_126 : decode cX12_read 126 = .ok (.iload 5, 2) := dB_3_3_37.1.2.1.2
theorem dX12_read_128 : decode cX12_read 128 = .ok (.iconst 2, 1) := dB_3_3_37.1.2.2.1
theorem dX12_read_129 : decode cX12_read 129 = .ok (.iadd, 1) := dB_3_3_37.1.2.2.2
theorem dX12_read_130 : decode cX12_read 130 = .ok (.laload, 1) := dB_3_3_37.2.1.1.1
theorem dX12_read_131 : decode cX12_read 131 = .ok (.aload_n 0, 1) := dB_3_3_37.2.1.1.2
theorem dX12_read_132 : decode cX12_read 132 = .ok (.getfield 50, 3) := dB_3_3_37.2.1.2.1
theorem dX12_read_135 : decode cX12_read 135 = .ok (.iload 5, 2) := dB_3_3_37.2.1.2.2
theorem dX12_read_137 : decode cX12_read 137 = .ok (.iconst 3, 1) := dB_3_3_37.2.2.1.1
theorem dX12_read_138 : decode cX12_read 138 = .ok (.iadd, 1) := dB_3_3_37.2.2.1.2
theorem dX12_read_139 : decode cX12_read 139 = .ok (.laload, 1) := dB_3_3_37.2.2.2.1
theorem dX12_read_140 : decode cX12_read 140 = .ok (.aload_n 0, 1) := dB_3_3_37.2.2.2.2
theorem dB_3_3_38 : ((((decode cX12_read 141 = .ok (.getfield 50, 3)) ∧ (decode cX12_read 144 = .ok (.iload 5, 2))) ∧ ((decode cX12_read 146 = .ok (.iconst 4, 1)) ∧ (decode cX12_read 147 = .ok (.iadd, 1)))) ∧ (((decode cX12_read 148 = .ok (.laload, 1)) ∧ (decode cX12_read 149 = .ok (.invokevirtual 120, 3))) ∧ ((decode cX12_read 152 = .ok (.istore 6, 2)) ∧ (decode cX12_read 154 = .ok (.iload 6, 2))))) ∧ ((((decode cX12_read 156 = .ok (.ifCond .ge 11, 3)) ∧ (decode cX12_read 159 = .ok (.aload_n 0, 1))) ∧ ((decode cX12_read 160 = .ok (.iload 6, 2)) ∧ (decode cX12_read 162 = .ok (.putfield 240, 3)))) ∧ (((decode cX12_read 165 = .ok (.iload_n 2, 1)) ∧ (decode cX12_read 166 = .ok (.ireturn, 1))) ∧ ((decode cX12_read 167 = .ok (.iload_n 2, 1)) ∧ (decode cX12_read 168 = .ok (.ifCond .ne 7, 3))))) := by first | decide +kernel | ((repeat' apply And.intro) <;> decide +kernel)
theorem dX12_read_141 : decode cX12_read 141 = .ok (.getfield 50, 3) := dB_3_3_38.1.1.1.1
theorem dX12_read_144 : decode cX12_read 144 = .ok (.iload 5, 2) := dB_3_3_38.1.1.1.2
theorem dX12_read_146 : decode cX12_read 146 = .ok (.iconst 4, 1) := dB_3_3_38.1.1.2.1
theorem dX12_read_147 : decode cX12_read 147 = .ok (.iadd, 1) := dB_3_3_38.1.1.2.2
theorem dX12_read_148 : decode cX12_read 148 = .ok (.laload, 1) := dB_3_3_38.1.2.1.1
theorem dX12_read_149 : decode cX12_read 149 = .ok (.invokevirtual 120, 3) := dB_3_3_38.1.2.1.2
theorem dX12_read_152 : decode cX12_read 152 = .ok (.istore 6, 2) := dB_3_3_38.1.2.2.1
theorem dX12_read_154 : decode cX12_read 154 = .ok (.iload 6, 2) := dB_3_3_38.1.2.2.2
theorem dX12_read_156 : decode cX12_read 156 = .ok (.ifCond .ge 11, 3) := dB_3_3_38.2.1.1.1
theorem dX12_read_159 : decode cX12_read 159 = .ok (.aload_n 0, 1) := dB_3_3_38.2.1.1.2
theorem dX12_read_160 : decode cX12_read 160 = .ok (.iload 6, 2) := dB_3_3_38.2.1.2.1
theorem dX12_read_162 : decode cX12_read 162 = .ok (.putfield 240, 3) := dB_3_3_38.2.1.2.2
theorem dX12_read_165 : decode cX12_read 165 = .ok (.iload_n 2, 1) := dB_3_3_38.2.2.1.1
theorem dX12_read_166 : decode cX12_read 166 = .ok (.ireturn, 1) := dB_3_3_38.2.2.1.2
theorem dX12_read_167 : decode cX12_read 167 = .ok (.iload_n 2, 1) := dB_3_3_38.2.2.2.1
theorem dX12_read_168 : decode cX12_read 168 = .ok (.ifCond .ne 7, 3) := dB_3_3_38.2.2.2.2
theorem dB_3_3_39 : ((((decode cX12_read 171 = .ok (.aload_n 0, 1)) ∧ (decode cX12_read 172 = .ok (.invokevirtual 105, 3))) ∧ ((decode cX12_read 175 = .ok (.aload_n 0, 1)) ∧ (decode cX12_read 176 = .ok (.aload_n 0, 1)))) ∧ (((decode cX12_read 177 = .ok (.getfield 50, 3)) ∧ (decode cX12_read 180 = .ok (.iload 5, 2))) ∧ ((decode cX12_read 182 = .ok (.laload, 1)) ∧ (decode cX12_read 183 = .ok (.l2i, 1))))) ∧ ((((decode cX12_read 184 = .ok (.aload_n 0, 1)) ∧ (decode cX12_read 185 = .ok (.getfield 50, 3))) ∧ ((decode cX12_read 188 = .ok (.iload 5, 2)) ∧ (decode cX12_read 190 = .ok (.iconst 1, 1)))) ∧ (((decode cX12_read 191 = .ok (.iadd, 1)) ∧ (decode cX12_read 192 = .ok (.laload, 1))) ∧ ((decode cX12_read 193 = .ok (.l2i, 1)) ∧ (decode cX12_read 194 = .ok (.aload_n 0, 1))))) := by first | decide +kernel | ((repeat' apply And.intro) <;> decide +kernel)
theorem dX12_read_171 : decode cX12_read 171 = .ok (.aload_n 0, 1) := dB_3_3_39.1.1.1.1
theorem dX12_read_172 : decode cX12_read 172 = .ok (.invokevirtual 105, 3) := dB_3_3_39.1.1.1.2
theorem dX12_read_175 : decode cX12_read 175 = .ok (.aload_n 0, 1) := dB_3_3_39.1.1.2.1
theorem dX12_read_176 : decode cX12_read 176 = .ok (.aload_n 0, 1) := dB_3_3_39.1.1.2.2
theorem dX12_read_177 : decode cX12_read 177 = .ok (.getfield 50, 3) := dB_3_3_39.1.2.1.1
theorem dX12_read_180 : decode cX12_read 180 = .ok (.iload 5, 2) := dB_3_3_39.1.2.1.2
theorem dX12_read_182 : decode cX12_read 182 = .ok (.laload, 1) := dB_3_3_39.1.2.2.1
theorem dX12_read_183 : decode cX12_read 183 = .ok (.l2i, 1) := dB_3_3_39.1.2.2.2
theorem dX12_read_184 : decode cX12_read 184 = .ok (.aload_n 0, 1) := dB_3_3_39.2.1.1.1
theorem dX12_read_185 : decode cX12_read 185 = .ok (.getfield 50, 3) := dB_3_3_39.2.1.1.2
theorem dX12_read_188 : decode cX12_read 188 = .ok (.iload 5, 2) := dB_3_3_39.2.1.2.1
theorem dX12_read_190 : decode cX12_read 190 = .ok (.iconst 1, 1) := dB_3_3_39.2.1.2.2
theorem dX12_read_191 : decode cX12_read 191 = .ok (.iadd, 1) := dB_3_3_39.2.2.1.1
theorem dX12_read_192 : decode cX12_read 192 = .ok (.laload, 1) := dB_3_3_39.2.2.1.2
theorem dX12_read_193 : decode cX12_read 193 = .ok (.l2i, 1) := dB_3_3_39.2.2.2.1
theorem dX12_read_194 : decode cX12_read 194 = .ok (.aload_n 0, 1) := dB_3_3_39.2.2.2.2
theorem dB_3_3_40 : ((((decode cX12_read 195 = .ok (.getfield 50, 3)) ∧ (decode cX12_read 198 = .ok (.iload 5, 2))) ∧ ((decode cX12_read 200 = .ok (.iconst 2, 1)) ∧ (decode cX12_read 201 = .ok (.iadd, 1)))) ∧ (((decode cX12_read 202 = .ok (.laload, 1)) ∧ (decode cX12_read 203 = .ok (.l2i, 1))) ∧ ((decode cX12_read 204 = .ok (.aload_n 0, 1)) ∧ (decode cX12_read 205 = .ok (.getfield 50, 3))))) ∧ ((((decode cX12_read 208 = .ok (.iload 5, 2)) ∧ (decode cX12_read 210 = .ok (.iconst 3, 1))) ∧ ((decode cX12_read 211 = .ok (.iadd, 1)) ∧ (decode cX12_read 212 = .ok (.laload, 1)))) ∧ (((decode cX12_read 213 = .ok (.l2i, 1)) ∧ (decode cX12_read 214 = .ok (.aload_n 0, 1))) ∧ ((decode cX12_read 215 = .ok (.getfield 50, 3)) ∧ (decode cX12_read 218 = .ok (.iload 5, 2))))) := by first | decide +kernel | ((repeat' apply And.intro) <;> decide +kernel)
theorem dX12_read_195 : decode cX12_read 195 = .ok (.getfield 50, 3) := dB_3_3_40.1.1.1.1
theorem dX12_read_198 : decode cX12_read 198 = .ok (.iload 5, 2) := dB_3_3_40.1.1.1.2
theorem dX12_read_200 : decode cX12_read 200 = .ok (.iconst 2, 1) := dB_3_3_40.1.1.2.1
theorem dX12_read_201 : decode cX12_read 201 = .ok (.iadd, 1) := dB_3_3_40.1.1.2.2
theorem dX12_read_202 : decode cX12_read 202 = .ok (.laload, 1) := dB_3_3_40.1.2.1.1
theorem dX12_read_203 : decode cX12_read 203 = .ok (.l2i, 1) := dB_3_3_40.1.2.1.2
theorem dX12_read_204 : decode cX12_read 204 = .ok (.aload_n 0, 1) := dB_3_3_40.1.2.2.1
theorem dX12_read_205 : decode cX12_read 205 = .ok (.getfield 50, 3) := dB_3_3_40.1.2.2.2
theorem dX12_read_208 : decode cX12_read 208 = .ok (.iload 5, 2) := dB_3_3_40.2.1.1.1
theorem dX12_read_210 : decode cX12_read 210 = .ok (.iconst 3, 1) := dB_3_3_40.2.1.1.2
theorem dX12_read_211 : decode cX12_read 211 = .ok (.iadd, 1) := dB_3_3_40.2.1.2.1
theorem dX12_read_212 : decode cX12_read 212 = .ok (.laload, 1) := dB_3_3_40.2.1.2.2
theorem dX12_read_213 : decode cX12_read 213 = .ok (.l2i, 1) := dB_3_3_40.2.2.1.1
theorem dX12_read_214 : decode cX12_read 214 = .ok (.aload_n 0, 1) := dB_3_3_40.2.2.1.2
theorem dX12_read_215 : decode cX12_read 215 = .ok (.getfield 50, 3) := dB_3_3_40.2.2.2.1
theorem dX12_read_218 : decode cX12_read 218 = .ok (.iload 5, 2) := dB_3_3_40.2.2.2.2
theorem dB_3_3_41 : ((((decode cX12_read 220 = .ok (.iconst 4, 1)) ∧ (decode cX12_read 221 = .ok (.iadd, 1))) ∧ ((decode cX12_read 222 = .ok (.laload, 1)) ∧ (decode cX12_read 223 = .ok (.l2i, 1)))) ∧ (((decode cX12_read 224 = .ok (.invokevirtual 124, 3)) ∧ (decode cX12_read 227 = .ok (.iinc 2 1, 3))) ∧ ((decode cX12_read 230 = .ok (.iinc 3 1, 3)) ∧ (decode cX12_read 233 = .ok (.goto (-184), 3))))) ∧ ((((decode cX12_read 236 = .ok (.iload_n 2, 1)) ∧ (decode cX12_read 237 = .ok (.ireturn, 1))) ∧ ((decode cX12_about 0 = .ok (.aload_n 0, 1)) ∧ (decode cX12_about 1 = .ok (.iconst 0, 1)))) ∧ (((decode cX12_about 2 = .ok (.putfield 85, 3)) ∧ (decode cX12_about 5 = .ok (.iconst 0, 1))) ∧ ((decode cX12_about 6 = .ok (.istore_n 2, 1)) ∧ (decode cX12_about 7 = .ok (.iconst 0, 1))))) := by first | decide +kernel | ((repeat' apply And.intro) <;> decide +kernel)
theorem dX12_read_220 : decode cX12_read 220 = .ok (.iconst 4, 1) := dB_3_3_41.1.1.1.1
theorem dX12_read_221 : decode cX12_read 221 = .ok (.iadd, 1) := dB_3_3_41.1.1.1.2
theorem dX12_read_222 : decode cX12_read 222 = .ok (.laload, 1) := dB_3_3_41.1.1.2.1
theorem dX12_read_223 : decode cX12_read 223 = .ok (.l2i, 1) := dB_3_3_41.1.1.2.2
theorem dX12_read_224 : decode cX12_read 224 = .ok (.invokevirtual 124, 3) := dB_3_3_41.1.2.1.1
theorem dX12_read_227 : decode cX12_read 227 = .ok (.iinc 2 1, 3) := dB_3_3_41.1.2.1.2
theorem dX12_read_230 : decode cX12_read 230 = .ok (.iinc 3 1, 3) := dB_3_3_41.1.2.2.1
theorem dX12_read_233 : decode cX12_read 233 = .ok (.goto (-184), 3) := dB_3_3_41.1.2.2.2
theorem dX12_read_236 : decode cX12_read 236 = .ok (.iload_n 2, 1) := dB_3_3_41.2.1.1.1
theorem dX12_read_237 : decode cX12_read 237 = .ok (.ireturn, 1) := dB_3_3_41.2.1.1.2
theorem dX12_about_0 : decode cX12_about 0 = .ok (.aload_n 0, 1) := dB_3_3_41.2.1.2.1
theorem dX12_about_1 : decode cX12_about 1 = .ok (.iconst 0, 1) := dB_3_3_41.2.1.2.2
theorem dX12_about_2 : decode cX12_about 2 = .ok (.putfield 85, 3) := dB_3_3_41.2.2.1.1
theorem dX12_about_5 : decode cX12_about 5 = .ok (.iconst 0, 1) := dB_3_3_41.2.2.1.2
theorem dX12_about_6 : decode cX12_about 6 = .ok (.istore_n 2, 1) := dB_3_3_41.2.2.2.1
theorem dX12_about_7 : decode cX12_about 7 = .ok (.iconst 0, 1) := dB_3_3_41.2.2.2.2
theorem dB_3_3_42 : ((((decode cX12_about 8 = .ok (.istore_n 3, 1)) ∧ (decode cX12_about 9 = .ok (.iload_n 3, 1))) ∧ ((decode cX12_about 10 = .ok (.aload_n 0, 1)) ∧ (decode cX12_about 11 = .ok (.getfield 95, 3)))) ∧ (((decode cX12_about 14 = .ok (.if_icmp .ge 26, 3)) ∧ (decode cX12_about 17 = .ok (.iload_n 2, 1))) ∧ ((decode cX12_about 18 = .ok (.aload_n 0, 1)) ∧ (decode cX12_about 19 = .ok (.getfield 25, 3))))) ∧ ((((decode cX12_about 22 = .ok (.iload_n 3, 1)) ∧ (decode cX12_about 23 = .ok (.baload, 1))) ∧ ((decode cX12_about 24 = .ok (.ifCond .eq 7, 3)) ∧ (decode cX12_about 27 = .ok (.iconst 1, 1)))) ∧ (((decode cX12_about 28 = .ok (.goto 4, 3)) ∧ (decode cX12_about 31 = .ok (.iconst 0, 1))) ∧ ((decode cX12_about 32 = .ok (.iadd, 1)) ∧ (decode cX12_about 33 = .ok (.istore_n 2, 1))))) := by first | decide +kernel | ((repeat' apply And.intro) <;> decide +kernel)
theorem dX12_about_8 : decode cX12_about 8 = .ok (.istore_n 3, 1) := dB_3_3_42.1.1.1.1
theorem dX12_about_9 : decode cX12_about 9 = .ok (.iload_n 3, 1) := dB_3_3_42.1.1.1.2
theorem dX12_about_10 : decode cX12_about 10 = .ok (.aload_n 0, 1) := dB_3_3_42.1.1.2.1
theorem dX12_about_11 : decode cX12_about 11 = .ok (.getfield 95, 3) := dB_3_3_42.1.1.2.2
theorem dX12_about_14 : decode cX12_about 14 = .ok (.if_icmp .ge 26, 3) := dB_3_3_42.1.2.1.1
theorem dX12_about_17 : decode cX12_about 17 = .ok (.iload_n 2, 1) := dB_3_3_42.1.2.1.2
theorem dX12_about_18 : decode cX12_about 18 = .ok (.aload_n 0, 1) := dB_3_3_42.1.2.2.1
theorem dX12_about_19 : decode cX12_about 19 = .ok (.getfield 25, 3) := dB_3_3_42.1.2.2.2
theorem dX12_about_22 : decode cX12_about 22 = .ok (.iload_n 3, 1) := dB_3_3_42.2.1.1.1
theorem dX12_about_23 : decode cX12_about 23 = .ok (.baload, 1) := dB_3_3_42.2.1.1.2
theorem dX12_about_24 : decode cX12_about 24 = .ok (.ifCond .eq 7, 3) := dB_3_3_42.2.1.2.1
theorem dX12_about_27 : decode cX12_about 27 = .ok (.iconst 1, 1) := dB_3_3_42.2.1.2.2
theorem dX12_about_28 : decode cX12_about 28 = .ok (.goto 4, 3) := dB_3_3_42.2.2.1.1
theorem dX12_about_31 : decode cX12_about 31 = .ok (.iconst 0, 1) := dB_3_3_42.2.2.1.2
theorem dX12_about_32 : decode cX12_about 32 = .ok (.iadd, 1) := dB_3_3_42.2.2.2.1
theorem dX12_about_33 : decode cX12_about 33 = .ok (.istore_n 2, 1) := dB_3_3_42.2.2.2.2
theorem dB_3_3_43 : ((((decode cX12_about 34 = .ok (.iinc 3 1, 3)) ∧ (decode cX12_about 37 = .ok (.goto (-28), 3))) ∧ ((decode cX12_about 40 = .ok (.iload_n 1, 1)) ∧ (decode cX12_about 41 = .ok (.ifCond .ne 10, 3)))) ∧ (((decode cX12_about 44 = .ok (.aload_n 0, 1)) ∧ (decode cX12_about 45 = .ok (.getfield 88, 3))) ∧ ((decode cX12_about 48 = .ok (.goto 57, 3)) ∧ (decode cX12_about 51 = .ok (.iload_n 1, 1))))) ∧ ((((decode cX12_about 52 = .ok (.iconst 1, 1)) ∧ (decode cX12_about 53 = .ok (.if_icmp .ne 10, 3))) ∧ ((decode cX12_about 56 = .ok (.aload_n 0, 1)) ∧ (decode cX12_about 57 = .ok (.getfield 95, 3)))) ∧ (((decode cX12_about 60 = .ok (.goto 45, 3)) ∧ (decode cX12_about 63 = .ok (.iload_n 1, 1))) ∧ ((decode cX12_about 64 = .ok (.iconst 2, 1)) ∧ (decode cX12_about 65 = .ok (.if_icmp .ne 7, 3))))) := by first | decide +kernel | ((repeat' apply And.intro) <;> decide +kernel)
theorem dX12_about_34 : decode cX12_about 34 = .ok (.iinc 3 1, 3) := dB_3_3_43.1.1.1.1
theorem dX12_about_37 : decode cX12_about 37 = .ok (.goto (-28), 3) := dB_3_3_43.1.1.1.2
theorem dX12_about_40 : decode cX12_about 40 = .ok (.iload_n 1, 1) := dB_3_3_43.1.1.2.1
theorem dX12_about_41 : decode cX12_about 41 = .ok (.ifCond .ne 10, 3) := dB_3_3_43.1.1.2.2
theorem dX12_about_44 : decode cX12_about 44 = .ok (.aload_n 0, 1) := dB_3_3_43.1.2.1.1
theorem dX12_about_45 : decode cX12_about 45 = .ok (.getfield 88, 3) := dB_3_3_43.1.2.1.2
theorem dX12_about_48 : decode cX12_about 48 = .ok (.goto 57, 3) := dB_3_3_43.1.2.2.1
theorem dX12_about_51 : decode cX12_about 51 = .ok (.iload_n 1, 1) := dB_3_3_43.1.2.2.2
theorem dX12_about_52 : decode cX12_about 52 = .ok (.iconst 1, 1) := dB_3_3_43.2.1.1.1
theorem dX12_about_53 : decode cX12_about 53 = .ok (.if_icmp .ne 10, 3) := dB_3_3_43.2.1.1.2
theorem dX12_about_56 : decode cX12_about 56 = .ok (.aload_n 0, 1) := dB_3_3_43.2.1.2.1
theorem dX12_about_57 : decode cX12_about 57 = .ok (.getfield 95, 3) := dB_3_3_43.2.1.2.2
theorem dX12_about_60 : decode cX12_about 60 = .ok (.goto 45, 3) := dB_3_3_43.2.2.1.1
theorem dX12_about_63 : decode cX12_about 63 = .ok (.iload_n 1, 1) := dB_3_3_43.2.2.1.2
theorem dX12_about_64 : decode cX12_about 64 = .ok (.iconst 2, 1) := dB_3_3_43.2.2.2.1
theorem dX12_about_65 : decode cX12_about 65 = .ok (.if_icmp .ne 7, 3) := dB_3_3_43.2.2.2.2
theorem dB_3_3_44 : ((((decode cX12_about 68 = .ok (.iload_n 2, 1)) ∧ (decode cX12_about 69 = .ok (.goto 36, 3))) ∧ ((decode cX12_about 72 = .ok (.iload_n 1, 1)) ∧ (decode cX12_about 73 = .ok (.iconst 3, 1)))) ∧ (((decode cX12_about 74 = .ok (.if_icmp .ne 10, 3)) ∧ (decode cX12_about 77 = .ok (.aload_n 0, 1))) ∧ ((decode cX12_about 78 = .ok (.getfield 102, 3)) ∧ (decode cX12_about 81 = .ok (.goto 24, 3))))) ∧ ((((decode cX12_about 84 = .ok (.iload_n 1, 1)) ∧ (decode cX12_about 85 = .ok (.iconst 4, 1))) ∧ ((decode cX12_about 86 = .ok (.if_icmp .ne 18, 3)) ∧ (decode cX12_about 89 = .ok (.aload_n 0, 1)))) ∧ (((decode cX12_about 90 = .ok (.invokevirtual 225, 3)) ∧ (decode cX12_about 93 = .ok (.ifCond .eq 7, 3))) ∧ ((decode cX12_about 96 = .ok (.iconst 1, 1)) ∧ (decode cX12_about 97 = .ok (.goto 8, 3))))) := by first | decide +kernel | ((repeat' apply And.intro) <;> decide +kernel)
theorem dX12_about_68 : decode cX12_about 68 = .ok (.iload_n 2, 1) := dB_3_3_44.1.1.1.1
theorem dX12_about_69 : decode cX12_about 69 = .ok (.goto 36, 3) := dB_3_3_44.1.1.1.2
theorem dX12_about_72 : decode cX12_about 72 = .ok (.iload_n 1, 1) := dB_3_3_44.1.1.2.1
theorem dX12_about_73 : decode cX12_about 73 = .ok (.iconst 3, 1) := dB_3_3_44.1.1.2.2
theorem dX12_about_74 : decode cX12_about 74 = .ok (.if_icmp .ne 10, 3) := dB_3_3_44.1.2.1.1
theorem dX12_about_77 : decode cX12_about 77 = .ok (.aload_n 0, 1) := dB_3_3_44.1.2.1.2
theorem dX12_about_78 : decode cX12_about 78 = .ok (.getfield 102, 3) := dB_3_3_44.1.2.2.1
theorem dX12_about_81 : decode cX12_about 81 = .ok (.goto 24, 3) := dB_3_3_44.1.2.2.2
theorem dX12_about_84 : decode cX12_about 84 = .ok (.iload_n 1, 1) := dB_3_3_44.2.1.1.1
theorem dX12_about_85 : decode cX12_about 85 = .ok (.iconst 4, 1) := dB_3_3_44.2.1.1.2
theorem dX12_about_86 : decode cX12_about 86 = .ok (.if_icmp .ne 18, 3) := dB_3_3_44.2.1.2.1
theorem dX12_about_89 : decode cX12_about 89 = .ok (.aload_n 0, 1) := dB_3_3_44.2.1.2.2
theorem dX12_about_90 : decode cX12_about 90 = .ok (.invokevirtual 225, 3) := dB_3_3_44.2.2.1.1
theorem dX12_about_93 : decode cX12_about 93 = .ok (.ifCond .eq 7, 3) := dB_3_3_44.2.2.1.2
theorem dX12_about_96 : decode cX12_about 96 = .ok (.iconst 1, 1) := dB_3_3_44.2.2.2.1
theorem dX12_about_97 : decode cX12_about 97 = .ok (.goto 8, 3) := dB_3_3_44.2.2.2.2
theorem dB_3_3_45 : ((((decode cX12_about 100 = .ok (.iconst 0, 1)) ∧ (decode cX12_about 101 = .ok (.goto 4, 3))) ∧ ((decode cX12_about 104 = .ok (.iconst (-1), 1)) ∧ (decode cX12_about 105 = .ok (.ireturn, 1)))) ∧ (((decode cX12_trace 0 = .ok (.aload_n 0, 1)) ∧ (decode cX12_trace 1 = .ok (.iconst 0, 1))) ∧ ((decode cX12_trace 2 = .ok (.putfield 85, 3)) ∧ (decode cX12_trace 5 = .ok (.aload_n 0, 1))))) ∧ ((((decode cX12_trace 6 = .ok (.getfield 114, 3)) ∧ (decode cX12_trace 9 = .ok (.lreturn, 1))) ∧ ((decode cX12_status 0 = .ok (.aload_n 0, 1)) ∧ (decode cX12_status 1 = .ok (.iconst 0, 1)))) ∧ (((decode cX12_status 2 = .ok (.putfield 85, 3)) ∧ (decode cX12_status 5 = .ok (.aload_n 0, 1))) ∧ ((decode cX12_status 6 = .ok (.getfield 240, 3)) ∧ (decode cX12_status 9 = .ok (.ireturn, 1))))) := by first | decide +kernel | ((repeat' apply And.intro) <;> decide +kernel)
theorem dX12_about_100 : decode cX12_about 100 = .ok (.iconst 0, 1) := dB_3_3_45.1.1.1.1
theorem dX12_about_101 : decode cX12_about 101 = .ok (.goto 4, 3) := dB_3_3_45.1.1.1.2
theorem dX12_about_104 : decode cX12_about 104 = .ok (.iconst (-1), 1) := dB_3_3_45.1.1.2.1
theorem dX12_about_105 : decode cX12_about 105 = .ok (.ireturn, 1) := dB_3_3_45.1.1.2.2
theorem dX12_trace_0 : decode cX12_trace 0 = .ok (.aload_n 0, 1) := dB_3_3_45.1.2.1.1
theorem dX12_trace_1 : decode cX12_trace 1 = .ok (.iconst 0, 1) := dB_3_3_45.1.2.1.2
theorem dX12_trace_2 : decode cX12_trace 2 = .ok (.putfield 85, 3) := dB_3_3_45.1.2.2.1
theorem dX12_trace_5 : decode cX12_trace 5 = .ok (.aload_n 0, 1) := dB_3_3_45.1.2.2.2
theorem dX12_trace_6 : decode cX12_trace 6 = .ok (.getfield 114, 3) := dB_3_3_45.2.1.1.1
theorem dX12_trace_9 : decode cX12_trace 9 = .ok (.lreturn, 1) := dB_3_3_45.2.1.1.2
theorem dX12_status_0 : decode cX12_status 0 = .ok (.aload_n 0, 1) := dB_3_3_45.2.1.2.1
theorem dX12_status_1 : decode cX12_status 1 = .ok (.iconst 0, 1) := dB_3_3_45.2.1.2.2
theorem dX12_status_2 : decode cX12_status 2 = .ok (.putfield 85, 3) := dB_3_3_45.2.2.1.1
theorem dX12_status_5 : decode cX12_status 5 = .ok (.aload_n 0, 1) := dB_3_3_45.2.2.1.2
theorem dX12_status_6 : decode cX12_status 6 = .ok (.getfield 240, 3) := dB_3_3_45.2.2.2.1
theorem dX12_status_9 : decode cX12_status 9 = .ok (.ireturn, 1) := dB_3_3_45.2.2.2.2
