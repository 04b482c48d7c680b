section
theorem dB_3_3_0 : ((((decode cX12_dense 101 = .ok (.iand, 1)) ∧ (decode cX12_dense 102 = .ok (.iconst 1, 1))) ∧ ((decode cX12_dense 103 = .ok (.if_icmp .ne 13, 3)) ∧ (decode cX12_dense 106 = .ok (.aload_n 0, 1)))) ∧ (((decode cX12_dense 107 = .ok (.getfield 19, 3)) ∧ (decode cX12_dense 110 = .ok (.iload 6, 2))) ∧ ((decode cX12_dense 112 = .ok (.iaload, 1)) ∧ (decode cX12_dense 113 = .ok (.goto 4, 3))))) ∧ ((((decode cX12_dense 116 = .ok (.iconst 0, 1)) ∧ (decode cX12_dense 117 = .ok (.iadd, 1))) ∧ ((decode cX12_dense 118 = .ok (.istore 5, 2)) ∧ (decode cX12_dense 120 = .ok (.iinc 6 1, 3)))) ∧ (((decode cX12_dense 123 = .ok (.goto (-70), 3)) ∧ (decode cX12_dense 126 = .ok (.iload 5, 2))) ∧ ((decode cX12_dense 128 = .ok (.i2l, 1)) ∧ (decode cX12_dense 129 = .ok (.iload_n 2, 1))))) := by first | decide +kernel | ((repeat' apply And.intro) <;> decide +kernel)
theorem dX12_dense_101 : decode cX12_dense 101 = .ok (.iand, 1) := dB_3_3_0.1.1.1.1
theorem dX12_dense_102 : decode cX12_dense 102 = .ok (.iconst 1, 1) := dB_3_3_0.1.1.1.2
theorem dX12_dense_103 : decode cX12_dense 103 = .ok (.if_icmp .ne 13, 3) := dB_3_3_0.1.1.2.1
theorem dX12_dense_106 : decode cX12_dense 106 = .ok (.aload_n 0, 1) := dB_3_3_0.1.1.2.2
theorem dX12_dense_107 : decode cX12_dense 107 = .ok (.getfield 19, 3) := dB_3_3_0.1.2.1.1
theorem dX12_dense_110 : decode cX12_dense 110 = .ok (.iload 6, 2) := dB_3_3_0.1.2.1.2
theorem dX12_dense_112 : decode cX12_dense 112 = .ok (.iaload, 1) := dB_3_3_0.1.2.2.1
theorem dX12_dense_113 : decode cX12_dense 113 = .ok (.goto 4, 3) := dB_3_3_0.1.2.2.2
theorem dX12_dense_116 : decode cX12_dense 116 = .ok (.iconst 0, 1) := dB_3_3_0.2.1.1.1
theorem dX12_dense_117 : decode cX12_dense 117 = .ok (.iadd, 1) := dB_3_3_0.2.1.1.2
theorem dX12_dense_118 : decode cX12_dense 118 = .ok (.istore 5, 2) := dB_3_3_0.2.1.2.1
theorem dX12_dense_120 : decode cX12_dense 120 = .ok (.iinc 6 1, 3) := dB_3_3_0.2.1.2.2
theorem dX12_dense_123 : decode cX12_dense 123 = .ok (.goto (-70), 3) := dB_3_3_0.2.2.1.1
theorem dX12_dense_126 : decode cX12_dense 126 = .ok (.iload 5, 2) := dB_3_3_0.2.2.1.2
theorem dX12_dense_128 : decode cX12_dense 128 = .ok (.i2l, 1) := dB_3_3_0.2.2.2.1
theorem dX12_dense_129 : decode cX12_dense 129 = .ok (.iload_n 2, 1) := dB_3_3_0.2.2.2.2
theorem dB_3_3_1 : ((((decode cX12_dense 130 = .ok (.invokestatic 204, 3)) ∧ (decode cX12_dense 133 = .ok (.i2l, 1))) ∧ ((decode cX12_dense 134 = .ok (.lmul, 1)) ∧ (decode cX12_dense 135 = .ok (.iload_n 3, 1)))) ∧ (((decode cX12_dense 136 = .ok (.i2l, 1)) ∧ (decode cX12_dense 137 = .ok (.iload 4, 2))) ∧ ((decode cX12_dense 139 = .ok (.invokestatic 204, 3)) ∧ (decode cX12_dense 142 = .ok (.i2l, 1))))) ∧ ((((decode cX12_dense 143 = .ok (.lmul, 1)) ∧ (decode cX12_dense 144 = .ok (.lsub, 1))) ∧ ((decode cX12_dense 145 = .ok (.lstore 6, 2)) ∧ (decode cX12_dense 147 = .ok (.iload_n 2, 1)))) ∧ (((decode cX12_dense 148 = .ok (.ifCond .eq 29, 3)) ∧ (decode cX12_dense 151 = .ok (.lload 6, 2))) ∧ ((decode cX12_dense 153 = .ok (.lconst 0, 1)) ∧ (decode cX12_dense 154 = .ok (.lcmp, 1))))) := by first | decide +kernel | ((repeat' apply And.intro) <;> decide +kernel)
theorem dX12_dense_130 : decode cX12_dense 130 = .ok (.invokestatic 204, 3) := dB_3_3_1.1.1.1.1
theorem dX12_dense_133 : decode cX12_dense 133 = .ok (.i2l, 1) := dB_3_3_1.1.1.1.2
theorem dX12_dense_134 : decode cX12_dense 134 = .ok (.lmul, 1) := dB_3_3_1.1.1.2.1
theorem dX12_dense_135 : decode cX12_dense 135 = .ok (.iload_n 3, 1) := dB_3_3_1.1.1.2.2
theorem dX12_dense_136 : decode cX12_dense 136 = .ok (.i2l, 1) := dB_3_3_1.1.2.1.1
theorem dX12_dense_137 : decode cX12_dense 137 = .ok (.iload 4, 2) := dB_3_3_1.1.2.1.2
theorem dX12_dense_139 : decode cX12_dense 139 = .ok (.invokestatic 204, 3) := dB_3_3_1.1.2.2.1
theorem dX12_dense_142 : decode cX12_dense 142 = .ok (.i2l, 1) := dB_3_3_1.1.2.2.2
theorem dX12_dense_143 : decode cX12_dense 143 = .ok (.lmul, 1) := dB_3_3_1.2.1.1.1
theorem dX12_dense_144 : decode cX12_dense 144 = .ok (.lsub, 1) := dB_3_3_1.2.1.1.2
theorem dX12_dense_145 : decode cX12_dense 145 = .ok (.lstore 6, 2) := dB_3_3_1.2.1.2.1
theorem dX12_dense_147 : decode cX12_dense 147 = .ok (.iload_n 2, 1) := dB_3_3_1.2.1.2.2
theorem dX12_dense_148 : decode cX12_dense 148 = .ok (.ifCond .eq 29, 3) := dB_3_3_1.2.2.1.1
theorem dX12_dense_151 : decode cX12_dense 151 = .ok (.lload 6, 2) := dB_3_3_1.2.2.1.2
theorem dX12_dense_153 : decode cX12_dense 153 = .ok (.lconst 0, 1) := dB_3_3_1.2.2.2.1
theorem dX12_dense_154 : decode cX12_dense 154 = .ok (.lcmp, 1) := dB_3_3_1.2.2.2.2
theorem dB_3_3_2 : ((((decode cX12_dense 155 = .ok (.ifCond .gt 22, 3)) ∧ (decode cX12_dense 158 = .ok (.lload 6, 2))) ∧ ((decode cX12_dense 160 = .ok (.lconst 0, 1)) ∧ (decode cX12_dense 161 = .ok (.lcmp, 1)))) ∧ (((decode cX12_dense 162 = .ok (.ifCond .ne 21, 3)) ∧ (decode cX12_dense 165 = .ok (.iload 4, 2))) ∧ ((decode cX12_dense 167 = .ok (.invokestatic 204, 3)) ∧ (decode cX12_dense 170 = .ok (.iload_n 2, 1))))) ∧ ((((decode cX12_dense 171 = .ok (.invokestatic 204, 3)) ∧ (decode cX12_dense 174 = .ok (.if_icmp .le 9, 3))) ∧ ((decode cX12_dense 177 = .ok (.iload 4, 2)) ∧ (decode cX12_dense 179 = .ok (.istore_n 2, 1)))) ∧ (((decode cX12_dense 180 = .ok (.iload 5, 2)) ∧ (decode cX12_dense 182 = .ok (.istore_n 3, 1))) ∧ ((decode cX12_dense 183 = .ok (.iinc 4 1, 3)) ∧ (decode cX12_dense 186 = .ok (.goto (-150), 3))))) := by first | decide +kernel | ((repeat' apply And.intro) <;> decide +kernel)
theorem dX12_dense_155 : decode cX12_dense 155 = .ok (.ifCond .gt 22, 3) := dB_3_3_2.1.1.1.1
theorem dX12_dense_158 : decode cX12_dense 158 = .ok (.lload 6, 2) := dB_3_3_2.1.1.1.2
theorem dX12_dense_160 : decode cX12_dense 160 = .ok (.lconst 0, 1) := dB_3_3_2.1.1.2.1
theorem dX12_dense_161 : decode cX12_dense 161 = .ok (.lcmp, 1) := dB_3_3_2.1.1.2.2
theorem dX12_dense_162 : decode cX12_dense 162 = .ok (.ifCond .ne 21, 3) := dB_3_3_2.1.2.1.1
theorem dX12_dense_165 : decode cX12_dense 165 = .ok (.iload 4, 2) := dB_3_3_2.1.2.1.2
theorem dX12_dense_167 : decode cX12_dense 167 = .ok (.invokestatic 204, 3) := dB_3_3_2.1.2.2.1
theorem dX12_dense_170 : decode cX12_dense 170 = .ok (.iload_n 2, 1) := dB_3_3_2.1.2.2.2
theorem dX12_dense_171 : decode cX12_dense 171 = .ok (.invokestatic 204, 3) := dB_3_3_2.2.1.1.1
theorem dX12_dense_174 : decode cX12_dense 174 = .ok (.if_icmp .le 9, 3) := dB_3_3_2.2.1.1.2
theorem dX12_dense_177 : decode cX12_dense 177 = .ok (.iload 4, 2) := dB_3_3_2.2.1.2.1
theorem dX12_dense_179 : decode cX12_dense 179 = .ok (.istore_n 2, 1) := dB_3_3_2.2.1.2.2
theorem dX12_dense_180 : decode cX12_dense 180 = .ok (.iload 5, 2) := dB_3_3_2.2.2.1.1
theorem dX12_dense_182 : decode cX12_dense 182 = .ok (.istore_n 3, 1) := dB_3_3_2.2.2.1.2
theorem dX12_dense_183 : decode cX12_dense 183 = .ok (.iinc 4 1, 3) := dB_3_3_2.2.2.2.1
theorem dX12_dense_186 : decode cX12_dense 186 = .ok (.goto (-150), 3) := dB_3_3_2.2.2.2.2
theorem dB_3_3_3 : ((((decode cX12_dense 189 = .ok (.iload_n 1, 1)) ∧ (decode cX12_dense 190 = .ok (.ifCond .ne 7, 3))) ∧ ((decode cX12_dense 193 = .ok (.iload_n 2, 1)) ∧ (decode cX12_dense 194 = .ok (.goto 16, 3)))) ∧ (((decode cX12_dense 197 = .ok (.iload_n 1, 1)) ∧ (decode cX12_dense 198 = .ok (.iconst 1, 1))) ∧ ((decode cX12_dense 199 = .ok (.if_icmp .ne 7, 3)) ∧ (decode cX12_dense 202 = .ok (.iload_n 3, 1))))) ∧ ((((decode cX12_dense 203 = .ok (.goto 7, 3)) ∧ (decode cX12_dense 206 = .ok (.iload_n 2, 1))) ∧ ((decode cX12_dense 207 = .ok (.invokestatic 204, 3)) ∧ (decode cX12_dense 210 = .ok (.ireturn, 1)))) ∧ (((decode cX12_no 0 = .ok (.aload_n 0, 1)) ∧ (decode cX12_no 1 = .ok (.iload_n 1, 1))) ∧ ((decode cX12_no 2 = .ok (.putfield 240, 3)) ∧ (decode cX12_no 5 = .ok (.iload_n 1, 1))))) := by first | decide +kernel | ((repeat' apply And.intro) <;> decide +kernel)
theorem dX12_dense_189 : decode cX12_dense 189 = .ok (.iload_n 1, 1) := dB_3_3_3.1.1.1.1
theorem dX12_dense_190 : decode cX12_dense 190 = .ok (.ifCond .ne 7, 3) := dB_3_3_3.1.1.1.2
theorem dX12_dense_193 : decode cX12_dense 193 = .ok (.iload_n 2, 1) := dB_3_3_3.1.1.2.1
theorem dX12_dense_194 : decode cX12_dense 194 = .ok (.goto 16, 3) := dB_3_3_3.1.1.2.2
theorem dX12_dense_197 : decode cX12_dense 197 = .ok (.iload_n 1, 1) := dB_3_3_3.1.2.1.1
theorem dX12_dense_198 : decode cX12_dense 198 = .ok (.iconst 1, 1) := dB_3_3_3.1.2.1.2
theorem dX12_dense_199 : decode cX12_dense 199 = .ok (.if_icmp .ne 7, 3) := dB_3_3_3.1.2.2.1
theorem dX12_dense_202 : decode cX12_dense 202 = .ok (.iload_n 3, 1) := dB_3_3_3.1.2.2.2
theorem dX12_dense_203 : decode cX12_dense 203 = .ok (.goto 7, 3) := dB_3_3_3.2.1.1.1
theorem dX12_dense_206 : decode cX12_dense 206 = .ok (.iload_n 2, 1) := dB_3_3_3.2.1.1.2
theorem dX12_dense_207 : decode cX12_dense 207 = .ok (.invokestatic 204, 3) := dB_3_3_3.2.1.2.1
theorem dX12_dense_210 : decode cX12_dense 210 = .ok (.ireturn, 1) := dB_3_3_3.2.1.2.2
theorem dX12_no_0 : decode cX12_no 0 = .ok (.aload_n 0, 1) := dB_3_3_3.2.2.1.1
theorem dX12_no_1 : decode cX12_no 1 = .ok (.iload_n 1, 1) := dB_3_3_3.2.2.1.2
theorem dX12_no_2 : decode cX12_no 2 = .ok (.putfield 240, 3) := dB_3_3_3.2.2.2.1
theorem dX12_no_5 : decode cX12_no 5 = .ok (.iload_n 1, 1) := dB_3_3_3.2.2.2.2
theorem dB_3_3_4 : ((((decode cX12_no 6 = .ok (.ireturn, 1)) ∧ (decode cX12_map 0 = .ok (.aload_n 0, 1))) ∧ ((decode cX12_map 1 = .ok (.iconst 0, 1)) ∧ (decode cX12_map 2 = .ok (.putfield 85, 3)))) ∧ (((decode cX12_map 5 = .ok (.aload_n 0, 1)) ∧ (decode cX12_map 6 = .ok (.iconst 0, 1))) ∧ ((decode cX12_map 7 = .ok (.putfield 240, 3)) ∧ (decode cX12_map 10 = .ok (.iload_n 1, 1))))) ∧ ((((decode cX12_map 11 = .ok (.i2l, 1)) ∧ (decode cX12_map 12 = .ok (.lconst 0, 1))) ∧ ((decode cX12_map 13 = .ok (.ldc2_w 243, 3)) ∧ (decode cX12_map 16 = .ok (.invokestatic 91, 3)))) ∧ (((decode cX12_map 19 = .ok (.ifCond .eq 21, 3)) ∧ (decode cX12_map 22 = .ok (.iload_n 2, 1))) ∧ ((decode cX12_map 23 = .ok (.i2l, 1)) ∧ (decode cX12_map 24 = .ok (.lconst 0, 1))))) := by first | decide +kernel | ((repeat' apply And.intro) <;> decide +kernel)
theorem dX12_no_6 : decode cX12_no 6 = .ok (.ireturn, 1) := dB_3_3_4.1.1.1.1
theorem dX12_map_0 : decode cX12_map 0 = .ok (.aload_n 0, 1) := dB_3_3_4.1.1.1.2
theorem dX12_map_1 : decode cX12_map 1 = .ok (.iconst 0, 1) := dB_3_3_4.1.1.2.1
theorem dX12_map_2 : decode cX12_map 2 = .ok (.putfield 85, 3) := dB_3_3_4.1.1.2.2
theorem dX12_map_5 : decode cX12_map 5 = .ok (.aload_n 0, 1) := dB_3_3_4.1.2.1.1
theorem dX12_map_6 : decode cX12_map 6 = .ok (.iconst 0, 1) := dB_3_3_4.1.2.1.2
theorem dX12_map_7 : decode cX12_map 7 = .ok (.putfield 240, 3) := dB_3_3_4.1.2.2.1
theorem dX12_map_10 : decode cX12_map 10 = .ok (.iload_n 1, 1) := dB_3_3_4.1.2.2.2
theorem dX12_map_11 : decode cX12_map 11 = .ok (.i2l, 1) := dB_3_3_4.2.1.1.1
theorem dX12_map_12 : decode cX12_map 12 = .ok (.lconst 0, 1) := dB_3_3_4.2.1.1.2
theorem dX12_map_13 : decode cX12_map 13 = .ok (.ldc2_w 243, 3) := dB_3_3_4.2.1.2.1
theorem dX12_map_16 : decode cX12_map 16 = .ok (.invokestatic 91, 3) := dB_3_3_4.2.1.2.2
theorem dX12_map_19 : decode cX12_map 19 = .ok (.ifCond .eq 21, 3) := dB_3_3_4.2.2.1.1
theorem dX12_map_22 : decode cX12_map 22 = .ok (.iload_n 2, 1) := dB_3_3_4.2.2.1.2
theorem dX12_map_23 : decode cX12_map 23 = .ok (.i2l, 1) := dB_3_3_4.2.2.2.1
theorem dX12_map_24 : decode cX12_map 24 = .ok (.lconst 0, 1) := dB_3_3_4.2.2.2.2
theorem dB_3_3_5 : ((((decode cX12_map 25 = .ok (.ldc2_w 149, 3)) ∧ (decode cX12_map 28 = .ok (.invokestatic 91, 3))) ∧ ((decode cX12_map 31 = .ok (.ifCond .eq 9, 3)) ∧ (decode cX12_map 34 = .ok (.iload_n 3, 1)))) ∧ (((decode cX12_map 35 = .ok (.bipush 6, 2)) ∧ (decode cX12_map 37 = .ok (.if_icmp .le 9, 3))) ∧ ((decode cX12_map 40 = .ok (.aload_n 0, 1)) ∧ (decode cX12_map 41 = .ok (.iconst (-1), 1))))) ∧ ((((decode cX12_map 42 = .ok (.invokevirtual 245, 3)) ∧ (decode cX12_map 45 = .ok (.ireturn, 1))) ∧ ((decode cX12_map 46 = .ok (.iload_n 3, 1)) ∧ (decode cX12_map 47 = .ok (.ifCond .ge 10, 3)))) ∧ (((decode cX12_map 50 = .ok (.aload_n 0, 1)) ∧ (decode cX12_map 51 = .ok (.bipush (-15), 2))) ∧ ((decode cX12_map 53 = .ok (.invokevirtual 245, 3)) ∧ (decode cX12_map 56 = .ok (.ireturn, 1))))) := by first | decide +kernel | ((repeat' apply And.intro) <;> decide +kernel)
theorem dX12_map_25 : decode cX12_map 25 = .ok (.ldc2_w 149, 3) := dB_3_3_5.1.1.1.1
theorem dX12_map_28 : decode cX12_map 28 = .ok (.invokestatic 91, 3) := dB_3_3_5.1.1.1.2
theorem dX12_map_31 : decode cX12_map 31 = .ok (.ifCond .eq 9, 3) := dB_3_3_5.1.1.2.1
theorem dX12_map_34 : decode cX12_map 34 = .ok (.iload_n 3, 1) := dB_3_3_5.1.1.2.2
theorem dX12_map_35 : decode cX12_map 35 = .ok (.bipush 6, 2) := dB_3_3_5.1.2.1.1
theorem dX12_map_37 : decode cX12_map 37 = .ok (.if_icmp .le 9, 3) := dB_3_3_5.1.2.1.2
theorem dX12_map_40 : decode cX12_map 40 = .ok (.aload_n 0, 1) := dB_3_3_5.1.2.2.1
theorem dX12_map_41 : decode cX12_map 41 = .ok (.iconst (-1), 1) := dB_3_3_5.1.2.2.2
theorem dX12_map_42 : decode cX12_map 42 = .ok (.invokevirtual 245, 3) := dB_3_3_5.2.1.1.1
theorem dX12_map_45 : decode cX12_map 45 = .ok (.ireturn, 1) := dB_3_3_5.2.1.1.2
theorem dX12_map_46 : decode cX12_map 46 = .ok (.iload_n 3, 1) := dB_3_3_5.2.1.2.1
theorem dX12_map_47 : decode cX12_map 47 = .ok (.ifCond .ge 10, 3) := dB_3_3_5.2.1.2.2
theorem dX12_map_50 : decode cX12_map 50 = .ok (.aload_n 0, 1) := dB_3_3_5.2.2.1.1
theorem dX12_map_51 : decode cX12_map 51 = .ok (.bipush (-15), 2) := dB_3_3_5.2.2.1.2
theorem dX12_map_53 : decode cX12_map 53 = .ok (.invokevirtual 245, 3) := dB_3_3_5.2.2.2.1
theorem dX12_map_56 : decode cX12_map 56 = .ok (.ireturn, 1) := dB_3_3_5.2.2.2.2
theorem dB_3_3_6 : ((((decode cX12_map 57 = .ok (.aload_n 0, 1)) ∧ (decode cX12_map 58 = .ok (.getfield 38, 3))) ∧ ((decode cX12_map 61 = .ok (.iload_n 1, 1)) ∧ (decode cX12_map 62 = .ok (.iconst 1, 1)))) ∧ (((decode cX12_map 63 = .ok (.bastore, 1)) ∧ (decode cX12_map 64 = .ok (.aload_n 0, 1))) ∧ ((decode cX12_map 65 = .ok (.getfield 41, 3)) ∧ (decode cX12_map 68 = .ok (.iload_n 1, 1))))) ∧ ((((decode cX12_map 69 = .ok (.iload_n 2, 1)) ∧ (decode cX12_map 70 = .ok (.iastore, 1))) ∧ ((decode cX12_map 71 = .ok (.aload_n 0, 1)) ∧ (decode cX12_map 72 = .ok (.getfield 44, 3)))) ∧ (((decode cX12_map 75 = .ok (.iload_n 1, 1)) ∧ (decode cX12_map 76 = .ok (.iload_n 3, 1))) ∧ ((decode cX12_map 77 = .ok (.iastore, 1)) ∧ (decode cX12_map 78 = .ok (.iconst 0, 1))))) := by first | decide +kernel | ((repeat' apply And.intro) <;> decide +kernel)
theorem dX12_map_57 : decode cX12_map 57 = .ok (.aload_n 0, 1) := dB_3_3_6.1.1.1.1
theorem dX12_map_58 : decode cX12_map 58 = .ok (.getfield 38, 3) := dB_3_3_6.1.1.1.2
theorem dX12_map_61 : decode cX12_map 61 = .ok (.iload_n 1, 1) := dB_3_3_6.1.1.2.1
theorem dX12_map_62 : decode cX12_map 62 = .ok (.iconst 1, 1) := dB_3_3_6.1.1.2.2
theorem dX12_map_63 : decode cX12_map 63 = .ok (.bastore, 1) := dB_3_3_6.1.2.1.1
theorem dX12_map_64 : decode cX12_map 64 = .ok (.aload_n 0, 1) := dB_3_3_6.1.2.1.2
theorem dX12_map_65 : decode cX12_map 65 = .ok (.getfield 41, 3) := dB_3_3_6.1.2.2.1
theorem dX12_map_68 : decode cX12_map 68 = .ok (.iload_n 1, 1) := dB_3_3_6.1.2.2.2
theorem dX12_map_69 : decode cX12_map 69 = .ok (.iload_n 2, 1) := dB_3_3_6.2.1.1.1
theorem dX12_map_70 : decode cX12_map 70 = .ok (.iastore, 1) := dB_3_3_6.2.1.1.2
theorem dX12_map_71 : decode cX12_map 71 = .ok (.aload_n 0, 1) := dB_3_3_6.2.1.2.1
theorem dX12_map_72 : decode cX12_map 72 = .ok (.getfield 44, 3) := dB_3_3_6.2.1.2.2
theorem dX12_map_75 : decode cX12_map 75 = .ok (.iload_n 1, 1) := dB_3_3_6.2.2.1.1
theorem dX12_map_76 : decode cX12_map 76 = .ok (.iload_n 3, 1) := dB_3_3_6.2.2.1.2
theorem dX12_map_77 : decode cX12_map 77 = .ok (.iastore, 1) := dB_3_3_6.2.2.2.1
theorem dX12_map_78 : decode cX12_map 78 = .ok (.iconst 0, 1) := dB_3_3_6.2.2.2.2
theorem dB_3_3_7 : ((((decode cX12_map 79 = .ok (.istore 4, 2)) ∧ (decode cX12_map 81 = .ok (.iload 4, 2))) ∧ ((decode cX12_map 83 = .ok (.bipush 6, 2)) ∧ (decode cX12_map 85 = .ok (.if_icmp .ge 23, 3)))) ∧ (((decode cX12_map 88 = .ok (.aload_n 0, 1)) ∧ (decode cX12_map 89 = .ok (.getfield 47, 3))) ∧ ((decode cX12_map 92 = .ok (.bipush 6, 2)) ∧ (decode cX12_map 94 = .ok (.iload_n 1, 1))))) ∧ ((((decode cX12_map 95 = .ok (.imul, 1)) ∧ (decode cX12_map 96 = .ok (.iload 4, 2))) ∧ ((decode cX12_map 98 = .ok (.iadd, 1)) ∧ (decode cX12_map 99 = .ok (.bipush (-9), 2)))) ∧ (((decode cX12_map 101 = .ok (.iastore, 1)) ∧ (decode cX12_map 102 = .ok (.iinc 4 1, 3))) ∧ ((decode cX12_map 105 = .ok (.goto (-24), 3)) ∧ (decode cX12_map 108 = .ok (.iconst 1, 1))))) := by first | decide +kernel | ((repeat' apply And.intro) <;> decide +kernel)
theorem dX12_map_79 : decode cX12_map 79 = .ok (.istore 4, 2) := dB_3_3_7.1.1.1.1
theorem dX12_map_81 : decode cX12_map 81 = .ok (.iload 4, 2) := dB_3_3_7.1.1.1.2
theorem dX12_map_83 : decode cX12_map 83 = .ok (.bipush 6, 2) := dB_3_3_7.1.1.2.1
theorem dX12_map_85 : decode cX12_map 85 = .ok (.if_icmp .ge 23, 3) := dB_3_3_7.1.1.2.2
theorem dX12_map_88 : decode cX12_map 88 = .ok (.aload_n 0, 1) := dB_3_3_7.1.2.1.1
theorem dX12_map_89 : decode cX12_map 89 = .ok (.getfield 47, 3) := dB_3_3_7.1.2.1.2
theorem dX12_map_92 : decode cX12_map 92 = .ok (.bipush 6, 2) := dB_3_3_7.1.2.2.1
theorem dX12_map_94 : decode cX12_map 94 = .ok (.iload_n 1, 1) := dB_3_3_7.1.2.2.2
theorem dX12_map_95 : decode cX12_map 95 = .ok (.imul, 1) := dB_3_3_7.2.1.1.1
theorem dX12_map_96 : decode cX12_map 96 = .ok (.iload 4, 2) := dB_3_3_7.2.1.1.2
theorem dX12_map_98 : decode cX12_map 98 = .ok (.iadd, 1) := dB_3_3_7.2.1.2.1
theorem dX12_map_99 : decode cX12_map 99 = .ok (.bipush (-9), 2) := dB_3_3_7.2.1.2.2
theorem dX12_map_101 : decode cX12_map 101 = .ok (.iastore, 1) := dB_3_3_7.2.2.1.1
theorem dX12_map_102 : decode cX12_map 102 = .ok (.iinc 4 1, 3) := dB_3_3_7.2.2.1.2
theorem dX12_map_105 : decode cX12_map 105 = .ok (.goto (-24), 3) := dB_3_3_7.2.2.2.1
theorem dX12_map_108 : decode cX12_map 108 = .ok (.iconst 1, 1) := dB_3_3_7.2.2.2.2
theorem dB_3_3_8 : ((((decode cX12_map 109 = .ok (.ireturn, 1)) ∧ (decode cX12_row 0 = .ok (.aload_n 0, 1))) ∧ ((decode cX12_row 1 = .ok (.iconst 0, 1)) ∧ (decode cX12_row 2 = .ok (.putfield 85, 3)))) ∧ (((decode cX12_row 5 = .ok (.aload_n 0, 1)) ∧ (decode cX12_row 6 = .ok (.iconst 0, 1))) ∧ ((decode cX12_row 7 = .ok (.putfield 240, 3)) ∧ (decode cX12_row 10 = .ok (.iload_n 1, 1))))) ∧ ((((decode cX12_row 11 = .ok (.i2l, 1)) ∧ (decode cX12_row 12 = .ok (.lconst 0, 1))) ∧ ((decode cX12_row 13 = .ok (.ldc2_w 243, 3)) ∧ (decode cX12_row 16 = .ok (.invokestatic 91, 3)))) ∧ (((decode cX12_row 19 = .ok (.ifCond .eq 8, 3)) ∧ (decode cX12_row 22 = .ok (.iload_n 3, 1))) ∧ ((decode cX12_row 23 = .ok (.iconst 5, 1)) ∧ (decode cX12_row 24 = .ok (.if_icmp .le 9, 3))))) := by first | decide +kernel | ((repeat' apply And.intro) <;> decide +kernel)
theorem dX12_map_109 : decode cX12_map 109 = .ok (.ireturn, 1) := dB_3_3_8.1.1.1.1
theorem dX12_row_0 : decode cX12_row 0 = .ok (.aload_n 0, 1) := dB_3_3_8.1.1.1.2
theorem dX12_row_1 : decode cX12_row 1 = .ok (.iconst 0, 1) := dB_3_3_8.1.1.2.1
theorem dX12_row_2 : decode cX12_row 2 = .ok (.putfield 85, 3) := dB_3_3_8.1.1.2.2
theorem dX12_row_5 : decode cX12_row 5 = .ok (.aload_n 0, 1) := dB_3_3_8.1.2.1.1
theorem dX12_row_6 : decode cX12_row 6 = .ok (.iconst 0, 1) := dB_3_3_8.1.2.1.2
theorem dX12_row_7 : decode cX12_row 7 = .ok (.putfield 240, 3) := dB_3_3_8.1.2.2.1
theorem dX12_row_10 : decode cX12_row 10 = .ok (.iload_n 1, 1) := dB_3_3_8.1.2.2.2
theorem dX12_row_11 : decode cX12_row 11 = .ok (.i2l, 1) := dB_3_3_8.2.1.1.1
theorem dX12_row_12 : decode cX12_row 12 = .ok (.lconst 0, 1) := dB_3_3_8.2.1.1.2
theorem dX12_row_13 : decode cX12_row 13 = .ok (.ldc2_w 243, 3) := dB_3_3_8.2.1.2.1
theorem dX12_row_16 : decode cX12_row 16 = .ok (.invokestatic 91, 3) := dB_3_3_8.2.1.2.2
theorem dX12_row_19 : decode cX12_row 19 = .ok (.ifCond .eq 8, 3) := dB_3_3_8.2.2.1.1
theorem dX12_row_22 : decode cX12_row 22 = .ok (.iload_n 3, 1) := dB_3_3_8.2.2.1.2
theorem dX12_row_23 : decode cX12_row 23 = .ok (.iconst 5, 1) := dB_3_3_8.2.2.2.1
theorem dX12_row_24 : decode cX12_row 24 = .ok (.if_icmp .le 9, 3) := dB_3_3_8.2.2.2.2
theorem dB_3_3_9 : ((((decode cX12_row 27 = .ok (.aload_n 0, 1)) ∧ (decode cX12_row 28 = .ok (.iconst (-1), 1))) ∧ ((decode cX12_row 29 = .ok (.invokevirtual 245, 3)) ∧ (decode cX12_row 32 = .ok (.ireturn, 1)))) ∧ (((decode cX12_row 33 = .ok (.aload_n 0, 1)) ∧ (decode cX12_row 34 = .ok (.getfield 38, 3))) ∧ ((decode cX12_row 37 = .ok (.iload_n 1, 1)) ∧ (decode cX12_row 38 = .ok (.baload, 1))))) ∧ ((((decode cX12_row 39 = .ok (.ifCond .ne 10, 3)) ∧ (decode cX12_row 42 = .ok (.aload_n 0, 1))) ∧ ((decode cX12_row 43 = .ok (.bipush (-11), 2)) ∧ (decode cX12_row 45 = .ok (.invokevirtual 245, 3)))) ∧ (((decode cX12_row 48 = .ok (.ireturn, 1)) ∧ (decode cX12_row 49 = .ok (.iload_n 2, 1))) ∧ ((decode cX12_row 50 = .ok (.i2l, 1)) ∧ (decode cX12_row 51 = .ok (.lconst 0, 1))))) := by first | decide +kernel | ((repeat' apply And.intro) <;> decide +kernel)
theorem dX12_row_27 : decode cX12_row 27 = .ok (.aload_n 0, 1) := dB_3_3_9.1.1.1.1
theorem dX12_row_28 : decode cX12_row 28 = .ok (.iconst (-1), 1) := dB_3_3_9.1.1.1.2
theorem dX12_row_29 : decode cX12_row 29 = .ok (.invokevirtual 245, 3) := dB_3_3_9.1.1.2.1
theorem dX12_row_32 : decode cX12_row 32 = .ok (.ireturn, 1) := dB_3_3_9.1.1.2.2
theorem dX12_row_33 : decode cX12_row 33 = .ok (.aload_n 0, 1) := dB_3_3_9.1.2.1.1
theorem dX12_row_34 : decode cX12_row 34 = .ok (.getfield 38, 3) := dB_3_3_9.1.2.1.2
theorem dX12_row_37 : decode cX12_row 37 = .ok (.iload_n 1, 1) := dB_3_3_9.1.2.2.1
theorem dX12_row_38 : decode cX12_row 38 = .ok (.baload, 1) := dB_3_3_9.1.2.2.2
theorem dX12_row_39 : decode cX12_row 39 = .ok (.ifCond .ne 10, 3) := dB_3_3_9.2.1.1.1
theorem dX12_row_42 : decode cX12_row 42 = .ok (.aload_n 0, 1) := dB_3_3_9.2.1.1.2
theorem dX12_row_43 : decode cX12_row 43 = .ok (.bipush (-11), 2) := dB_3_3_9.2.1.2.1
theorem dX12_row_45 : decode cX12_row 45 = .ok (.invokevirtual 245, 3) := dB_3_3_9.2.1.2.2
theorem dX12_row_48 : decode cX12_row 48 = .ok (.ireturn, 1) := dB_3_3_9.2.2.1.1
theorem dX12_row_49 : decode cX12_row 49 = .ok (.iload_n 2, 1) := dB_3_3_9.2.2.1.2
theorem dX12_row_50 : decode cX12_row 50 = .ok (.i2l, 1) := dB_3_3_9.2.2.2.1
theorem dX12_row_51 : decode cX12_row 51 = .ok (.lconst 0, 1) := dB_3_3_9.2.2.2.2
theorem dB_3_3_10 : ((((decode cX12_row 52 = .ok (.aload_n 0, 1)) ∧ (decode cX12_row 53 = .ok (.getfield 44, 3))) ∧ ((decode cX12_row 56 = .ok (.iload_n 1, 1)) ∧ (decode cX12_row 57 = .ok (.iaload, 1)))) ∧ (((decode cX12_row 58 = .ok (.iconst 1, 1)) ∧ (decode cX12_row 59 = .ok (.isub, 1))) ∧ ((decode cX12_row 60 = .ok (.i2l, 1)) ∧ (decode cX12_row 61 = .ok (.invokestatic 91, 3))))) ∧ ((((decode cX12_row 64 = .ok (.ifCond .ne 10, 3)) ∧ (decode cX12_row 67 = .ok (.aload_n 0, 1))) ∧ ((decode cX12_row 68 = .ok (.bipush (-12), 2)) ∧ (decode cX12_row 70 = .ok (.invokevirtual 245, 3)))) ∧ (((decode cX12_row 73 = .ok (.ireturn, 1)) ∧ (decode cX12_row 74 = .ok (.iload_n 3, 1))) ∧ ((decode cX12_row 75 = .ok (.ifCond .ge 10, 3)) ∧ (decode cX12_row 78 = .ok (.aload_n 0, 1))))) := by first | decide +kernel | ((repeat' apply And.intro) <;> decide +kernel)
theorem dX12_row_52 : decode cX12_row 52 = .ok (.aload_n 0, 1) := dB_3_3_10.1.1.1.1
theorem dX12_row_53 : decode cX12_row 53 = .ok (.getfield 44, 3) := dB_3_3_10.1.1.1.2
theorem dX12_row_56 : decode cX12_row 56 = .ok (.iload_n 1, 1) := dB_3_3_10.1.1.2.1
theorem dX12_row_57 : decode cX12_row 57 = .ok (.iaload, 1) := dB_3_3_10.1.1.2.2
theorem dX12_row_58 : decode cX12_row 58 = .ok (.iconst 1, 1) := dB_3_3_10.1.2.1.1
theorem dX12_row_59 : decode cX12_row 59 = .ok (.isub, 1) := dB_3_3_10.1.2.1.2
theorem dX12_row_60 : decode cX12_row 60 = .ok (.i2l, 1) := dB_3_3_10.1.2.2.1
theorem dX12_row_61 : decode cX12_row 61 = .ok (.invokestatic 91, 3) := dB_3_3_10.1.2.2.2
theorem dX12_row_64 : decode cX12_row 64 = .ok (.ifCond .ne 10, 3) := dB_3_3_10.2.1.1.1
theorem dX12_row_67 : decode cX12_row 67 = .ok (.aload_n 0, 1) := dB_3_3_10.2.1.1.2
theorem dX12_row_68 : decode cX12_row 68 = .ok (.bipush (-12), 2) := dB_3_3_10.2.1.2.1
theorem dX12_row_70 : decode cX12_row 70 = .ok (.invokevirtual 245, 3) := dB_3_3_10.2.1.2.2
theorem dX12_row_73 : decode cX12_row 73 = .ok (.ireturn, 1) := dB_3_3_10.2.2.1.1
theorem dX12_row_74 : decode cX12_row 74 = .ok (.iload_n 3, 1) := dB_3_3_10.2.2.1.2
theorem dX12_row_75 : decode cX12_row 75 = .ok (.ifCond .ge 10, 3) := dB_3_3_10.2.2.2.1
theorem dX12_row_78 : decode cX12_row 78 = .ok (.aload_n 0, 1) := dB_3_3_10.2.2.2.2
theorem dB_3_3_11 : ((((decode cX12_row 79 = .ok (.bipush (-15), 2)) ∧ (decode cX12_row 81 = .ok (.invokevirtual 245, 3))) ∧ ((decode cX12_row 84 = .ok (.ireturn, 1)) ∧ (decode cX12_row 85 = .ok (.aload_n 0, 1)))) ∧ (((decode cX12_row 86 = .ok (.getfield 47, 3)) ∧ (decode cX12_row 89 = .ok (.bipush 6, 2))) ∧ ((decode cX12_row 91 = .ok (.iload_n 1, 1)) ∧ (decode cX12_row 92 = .ok (.imul, 1))))) ∧ ((((decode cX12_row 93 = .ok (.iload_n 2, 1)) ∧ (decode cX12_row 94 = .ok (.iadd, 1))) ∧ ((decode cX12_row 95 = .ok (.iload_n 3, 1)) ∧ (decode cX12_row 96 = .ok (.iastore, 1)))) ∧ (((decode cX12_row 97 = .ok (.iconst 0, 1)) ∧ (decode cX12_row 98 = .ok (.istore 4, 2))) ∧ ((decode cX12_row 100 = .ok (.iload 4, 2)) ∧ (decode cX12_row 102 = .ok (.iconst 5, 1))))) := by first | decide +kernel | ((repeat' apply And.intro) <;> decide +kernel)
theorem dX12_row_79 : decode cX12_row 79 = .ok (.bipush (-15), 2) := dB_3_3_11.1.1.1.1
theorem dX12_row_81 : decode cX12_row 81 = .ok (.invokevirtual 245, 3) := dB_3_3_11.1.1.1.2
theorem dX12_row_84 : decode cX12_row 84 = .ok (.ireturn, 1) := dB_3_3_11.1.1.2.1
theorem dX12_row_85 : decode cX12_row 85 = .ok (.aload_n 0, 1) := dB_3_3_11.1.1.2.2
theorem dX12_row_86 : decode cX12_row 86 = .ok (.getfield 47, 3) := dB_3_3_11.1.2.1.1
theorem dX12_row_89 : decode cX12_row 89 = .ok (.bipush 6, 2) := dB_3_3_11.1.2.1.2
theorem dX12_row_91 : decode cX12_row 91 = .ok (.iload_n 1, 1) := dB_3_3_11.1.2.2.1
theorem dX12_row_92 : decode cX12_row 92 = .ok (.imul, 1) := dB_3_3_11.1.2.2.2
theorem dX12_row_93 : decode cX12_row 93 = .ok (.iload_n 2, 1) := dB_3_3_11.2.1.1.1
theorem dX12_row_94 : decode cX12_row 94 = .ok (.iadd, 1) := dB_3_3_11.2.1.1.2
theorem dX12_row_95 : decode cX12_row 95 = .ok (.iload_n 3, 1) := dB_3_3_11.2.1.2.1
theorem dX12_row_96 : decode cX12_row 96 = .ok (.iastore, 1) := dB_3_3_11.2.1.2.2
theorem dX12_row_97 : decode cX12_row 97 = .ok (.iconst 0, 1) := dB_3_3_11.2.2.1.1
theorem dX12_row_98 : decode cX12_row 98 = .ok (.istore 4, 2) := dB_3_3_11.2.2.1.2
theorem dX12_row_100 : decode cX12_row 100 = .ok (.iload 4, 2) := dB_3_3_11.2.2.2.1
theorem dX12_row_102 : decode cX12_row 102 = .ok (.iconst 5, 1) := dB_3_3_11.2.2.2.2
theorem dB_3_3_12 : ((((decode cX12_row 103 = .ok (.if_icmp .ge 26, 3)) ∧ (decode cX12_row 106 = .ok (.aload_n 0, 1))) ∧ ((decode cX12_row 107 = .ok (.getfield 50, 3)) ∧ (decode cX12_row 110 = .ok (.bipush 30, 2)))) ∧ (((decode cX12_row 112 = .ok (.iload_n 1, 1)) ∧ (decode cX12_row 113 = .ok (.imul, 1))) ∧ ((decode cX12_row 114 = .ok (.iconst 5, 1)) ∧ (decode cX12_row 115 = .ok (.iload_n 2, 1))))) ∧ ((((decode cX12_row 116 = .ok (.imul, 1)) ∧ (decode cX12_row 117 = .ok (.iadd, 1))) ∧ ((decode cX12_row 118 = .ok (.iload 4, 2)) ∧ (decode cX12_row 120 = .ok (.iadd, 1)))) ∧ (((decode cX12_row 121 = .ok (.lconst 0, 1)) ∧ (decode cX12_row 122 = .ok (.lastore, 1))) ∧ ((decode cX12_row 123 = .ok (.iinc 4 1, 3)) ∧ (decode cX12_row 126 = .ok (.goto (-26), 3))))) := by first | decide +kernel | ((repeat' apply And.intro) <;> decide +kernel)
theorem dX12_row_103 : decode cX12_row 103 = .ok (.if_icmp .ge 26, 3) := dB_3_3_12.1.1.1.1
theorem dX12_row_106 : decode cX12_row 106 = .ok (.aload_n 0, 1) := dB_3_3_12.1.1.1.2
theorem dX12_row_107 : decode cX12_row 107 = .ok (.getfield 50, 3) := dB_3_3_12.1.1.2.1
theorem dX12_row_110 : decode cX12_row 110 = .ok (.bipush 30, 2) := dB_3_3_12.1.1.2.2
theorem dX12_row_112 : decode cX12_row 112 = .ok (.iload_n 1, 1) := dB_3_3_12.1.2.1.1
theorem dX12_row_113 : decode cX12_row 113 = .ok (.imul, 1) := dB_3_3_12.1.2.1.2
theorem dX12_row_114 : decode cX12_row 114 = .ok (.iconst 5, 1) := dB_3_3_12.1.2.2.1
theorem dX12_row_115 : decode cX12_row 115 = .ok (.iload_n 2, 1) := dB_3_3_12.1.2.2.2
theorem dX12_row_116 : decode cX12_row 116 = .ok (.imul, 1) := dB_3_3_12.2.1.1.1
theorem dX12_row_117 : decode cX12_row 117 = .ok (.iadd, 1) := dB_3_3_12.2.1.1.2
theorem dX12_row_118 : decode cX12_row 118 = .ok (.iload 4, 2) := dB_3_3_12.2.1.2.1
theorem dX12_row_120 : decode cX12_row 120 = .ok (.iadd, 1) := dB_3_3_12.2.1.2.2
theorem dX12_row_121 : decode cX12_row 121 = .ok (.lconst 0, 1) := dB_3_3_12.2.2.1.1
theorem dX12_row_122 : decode cX12_row 122 = .ok (.lastore, 1) := dB_3_3_12.2.2.1.2
theorem dX12_row_123 : decode cX12_row 123 = .ok (.iinc 4 1, 3) := dB_3_3_12.2.2.2.1
theorem dX12_row_126 : decode cX12_row 126 = .ok (.goto (-26), 3) := dB_3_3_12.2.2.2.2
theorem dB_3_3_13 : ((((decode cX12_row 129 = .ok (.iconst 1, 1)) ∧ (decode cX12_row 130 = .ok (.ireturn, 1))) ∧ ((decode cX12_wrong 0 = .ok (.iload_n 1, 1)) ∧ (decode cX12_wrong 1 = .ok (.i2l, 1)))) ∧ (((decode cX12_wrong 2 = .ok (.lconst 0, 1)) ∧ (decode cX12_wrong 3 = .ok (.ldc2_w 243, 3))) ∧ ((decode cX12_wrong 6 = .ok (.invokestatic 91, 3)) ∧ (decode cX12_wrong 9 = .ok (.ifCond .eq 15, 3))))) ∧ ((((decode cX12_wrong 12 = .ok (.iload_n 2, 1)) ∧ (decode cX12_wrong 13 = .ok (.i2l, 1))) ∧ ((decode cX12_wrong 14 = .ok (.lconst 0, 1)) ∧ (decode cX12_wrong 15 = .ok (.ldc2_w 149, 3)))) ∧ (((decode cX12_wrong 18 = .ok (.invokestatic 91, 3)) ∧ (decode cX12_wrong 21 = .ok (.ifCond .ne 5, 3))) ∧ ((decode cX12_wrong 24 = .ok (.iconst (-1), 1)) ∧ (decode cX12_wrong 25 = .ok (.ireturn, 1))))) := by first | decide +kernel | ((repeat' apply And.intro) <;> decide +kernel)
theorem dX12_row_129 : decode cX12_row 129 = .ok (.iconst 1, 1) := dB_3_3_13.1.1.1.1
theorem dX12_row_130 : decode cX12_row 130 = .ok (.ireturn, 1) := dB_3_3_13.1.1.1.2
theorem dX12_wrong_0 : decode cX12_wrong 0 = .ok (.iload_n 1, 1) := dB_3_3_13.1.1.2.1
theorem dX12_wrong_1 : decode cX12_wrong 1 = .ok (.i2l, 1) := dB_3_3_13.1.1.2.2
theorem dX12_wrong_2 : decode cX12_wrong 2 = .ok (.lconst 0, 1) := dB_3_3_13.1.2.1.1
theorem dX12_wrong_3 : decode cX12_wrong 3 = .ok (.ldc2_w 243, 3) := dB_3_3_13.1.2.1.2
theorem dX12_wrong_6 : decode cX12_wrong 6 = .ok (.invokestatic 91, 3) := dB_3_3_13.1.2.2.1
theorem dX12_wrong_9 : decode cX12_wrong 9 = .ok (.ifCond .eq 15, 3) := dB_3_3_13.1.2.2.2
theorem dX12_wrong_12 : decode cX12_wrong 12 = .ok (.iload_n 2, 1) := dB_3_3_13.2.1.1.1
theorem dX12_wrong_13 : decode cX12_wrong 13 = .ok (.i2l, 1) := dB_3_3_13.2.1.1.2
theorem dX12_wrong_14 : decode cX12_wrong 14 = .ok (.lconst 0, 1) := dB_3_3_13.2.1.2.1
theorem dX12_wrong_15 : decode cX12_wrong 15 = .ok (.ldc2_w 149, 3) := dB_3_3_13.2.1.2.2
theorem dX12_wrong_18 : decode cX12_wrong 18 = .ok (.invokestatic 91, 3) := dB_3_3_13.2.2.1.1
theorem dX12_wrong_21 : decode cX12_wrong 21 = .ok (.ifCond .ne 5, 3) := dB_3_3_13.2.2.1.2
theorem dX12_wrong_24 : decode cX12_wrong 24 = .ok (.iconst (-1), 1) := dB_3_3_13.2.2.2.1
theorem dX12_wrong_25 : decode cX12_wrong 25 = .ok (.ireturn, 1) := dB_3_3_13.2.2.2.2
theorem dB_3_3_14 : ((((decode cX12_wrong 26 = .ok (.aload_n 0, 1)) ∧ (decode cX12_wrong 27 = .ok (.getfield 38, 3))) ∧ ((decode cX12_wrong 30 = .ok (.iload_n 1, 1)) ∧ (decode cX12_wrong 31 = .ok (.baload, 1)))) ∧ (((decode cX12_wrong 32 = .ok (.ifCond .ne 6, 3)) ∧ (decode cX12_wrong 35 = .ok (.bipush (-11), 2))) ∧ ((decode cX12_wrong 37 = .ok (.ireturn, 1)) ∧ (decode cX12_wrong 38 = .ok (.aload_n 0, 1))))) ∧ ((((decode cX12_wrong 39 = .ok (.getfield 41, 3)) ∧ (decode cX12_wrong 42 = .ok (.iload_n 1, 1))) ∧ ((decode cX12_wrong 43 = .ok (.iaload, 1)) ∧ (decode cX12_wrong 44 = .ok (.iload_n 2, 1)))) ∧ (((decode cX12_wrong 45 = .ok (.if_icmp .eq 6, 3)) ∧ (decode cX12_wrong 48 = .ok (.bipush (-13), 2))) ∧ ((decode cX12_wrong 50 = .ok (.ireturn, 1)) ∧ (decode cX12_wrong 51 = .ok (.iload_n 3, 1))))) := by first | decide +kernel | ((repeat' apply And.intro) <;> decide +kernel)
theorem dX12_wrong_26 : decode cX12_wrong 26 = .ok (.aload_n 0, 1) := dB_3_3_14.1.1.1.1
theorem dX12_wrong_27 : decode cX12_wrong 27 = .ok (.getfield 38, 3) := dB_3_3_14.1.1.1.2
theorem dX12_wrong_30 : decode cX12_wrong 30 = .ok (.iload_n 1, 1) := dB_3_3_14.1.1.2.1
theorem dX12_wrong_31 : decode cX12_wrong 31 = .ok (.baload, 1) := dB_3_3_14.1.1.2.2
theorem dX12_wrong_32 : decode cX12_wrong 32 = .ok (.ifCond .ne 6, 3) := dB_3_3_14.1.2.1.1
theorem dX12_wrong_35 : decode cX12_wrong 35 = .ok (.bipush (-11), 2) := dB_3_3_14.1.2.1.2
theorem dX12_wrong_37 : decode cX12_wrong 37 = .ok (.ireturn, 1) := dB_3_3_14.1.2.2.1
theorem dX12_wrong_38 : decode cX12_wrong 38 = .ok (.aload_n 0, 1) := dB_3_3_14.1.2.2.2
theorem dX12_wrong_39 : decode cX12_wrong 39 = .ok (.getfield 41, 3) := dB_3_3_14.2.1.1.1
theorem dX12_wrong_42 : decode cX12_wrong 42 = .ok (.iload_n 1, 1) := dB_3_3_14.2.1.1.2
theorem dX12_wrong_43 : decode cX12_wrong 43 = .ok (.iaload, 1) := dB_3_3_14.2.1.2.1
theorem dX12_wrong_44 : decode cX12_wrong 44 = .ok (.iload_n 2, 1) := dB_3_3_14.2.1.2.2
theorem dX12_wrong_45 : decode cX12_wrong 45 = .ok (.if_icmp .eq 6, 3) := dB_3_3_14.2.2.1.1
theorem dX12_wrong_48 : decode cX12_wrong 48 = .ok (.bipush (-13), 2) := dB_3_3_14.2.2.1.2
theorem dX12_wrong_50 : decode cX12_wrong 50 = .ok (.ireturn, 1) := dB_3_3_14.2.2.2.1
theorem dX12_wrong_51 : decode cX12_wrong 51 = .ok (.iload_n 3, 1) := dB_3_3_14.2.2.2.2
theorem dB_3_3_15 : ((((decode cX12_wrong 52 = .ok (.i2l, 1)) ∧ (decode cX12_wrong 53 = .ok (.lconst 0, 1))) ∧ ((decode cX12_wrong 54 = .ok (.aload_n 0, 1)) ∧ (decode cX12_wrong 55 = .ok (.getfield 44, 3)))) ∧ (((decode cX12_wrong 58 = .ok (.iload_n 1, 1)) ∧ (decode cX12_wrong 59 = .ok (.iaload, 1))) ∧ ((decode cX12_wrong 60 = .ok (.iconst 1, 1)) ∧ (decode cX12_wrong 61 = .ok (.isub, 1))))) ∧ ((((decode cX12_wrong 62 = .ok (.i2l, 1)) ∧ (decode cX12_wrong 63 = .ok (.invokestatic 91, 3))) ∧ ((decode cX12_wrong 66 = .ok (.ifCond .ne 6, 3)) ∧ (decode cX12_wrong 69 = .ok (.bipush (-12), 2)))) ∧ (((decode cX12_wrong 71 = .ok (.ireturn, 1)) ∧ (decode cX12_wrong 72 = .ok (.aload_n 0, 1))) ∧ ((decode cX12_wrong 73 = .ok (.getfield 47, 3)) ∧ (decode cX12_wrong 76 = .ok (.bipush 6, 2))))) := by first | decide +kernel | ((repeat' apply And.intro) <;> decide +kernel)
theorem dX12_wrong_52 : decode cX12_wrong 52 = .ok (.i2l, 1) := dB_3_3_15.1.1.1.1
theorem dX12_wrong_53 : decode cX12_wrong 53 = .ok (.lconst 0, 1) := dB_3_3_15.1.1.1.2
theorem dX12_wrong_54 : decode cX12_wrong 54 = .ok (.aload_n 0, 1) := dB_3_3_15.1.1.2.1
theorem dX12_wrong_55 : decode cX12_wrong 55 = .ok (.getfield 44, 3) := dB_3_3_15.1.1.2.2
theorem dX12_wrong_58 : decode cX12_wrong 58 = .ok (.iload_n 1, 1) := dB_3_3_15.1.2.1.1
theorem dX12_wrong_59 : decode cX12_wrong 59 = .ok (.iaload, 1) := dB_3_3_15.1.2.1.2
theorem dX12_wrong_60 : decode cX12_wrong 60 = .ok (.iconst 1, 1) := dB_3_3_15.1.2.2.1
theorem dX12_wrong_61 : decode cX12_wrong 61 = .ok (.isub, 1) := dB_3_3_15.1.2.2.2
theorem dX12_wrong_62 : decode cX12_wrong 62 = .ok (.i2l, 1) := dB_3_3_15.2.1.1.1
theorem dX12_wrong_63 : decode cX12_wrong 63 = .ok (.invokestatic 91, 3) := dB_3_3_15.2.1.1.2
theorem dX12_wrong_66 : decode cX12_wrong 66 = .ok (.ifCond .ne 6, 3) := dB_3_3_15.2.1.2.1
theorem dX12_wrong_69 : decode cX12_wrong 69 = .ok (.bipush (-12), 2) := dB_3_3_15.2.1.2.2
theorem dX12_wrong_71 : decode cX12_wrong 71 = .ok (.ireturn, 1) := dB_3_3_15.2.2.1.1
theorem dX12_wrong_72 : decode cX12_wrong 72 = .ok (.aload_n 0, 1) := dB_3_3_15.2.2.1.2
theorem dX12_wrong_73 : decode cX12_wrong 73 = .ok (.getfield 47, 3) := dB_3_3_15.2.2.2.1
theorem dX12_wrong_76 : decode cX12_wrong 76 = .ok (.bipush 6, 2) := dB_3_3_15.2.2.2.2
theorem dB_3_3_16 : ((((decode cX12_wrong 78 = .ok (.iload_n 1, 1)) ∧ (decode cX12_wrong 79 = .ok (.imul, 1))) ∧ ((decode cX12_wrong 80 = .ok (.iload_n 3, 1)) ∧ (decode cX12_wrong 81 = .ok (.iadd, 1)))) ∧ (((decode cX12_wrong 82 = .ok (.iaload, 1)) ∧ (decode cX12_wrong 83 = .ok (.istore 5, 2))) ∧ ((decode cX12_wrong 85 = .ok (.iload 5, 2)) ∧ (decode cX12_wrong 87 = .ok (.bipush (-9), 2))))) ∧ ((((decode cX12_wrong 89 = .ok (.if_icmp .ne 8, 3)) ∧ (decode cX12_wrong 92 = .ok (.bipush (-11), 2))) ∧ ((decode cX12_wrong 94 = .ok (.goto 24, 3)) ∧ (decode cX12_wrong 97 = .ok (.iload 4, 2)))) ∧ (((decode cX12_wrong 99 = .ok (.i2l, 1)) ∧ (decode cX12_wrong 100 = .ok (.lconst 0, 1))) ∧ ((decode cX12_wrong 101 = .ok (.iload 5, 2)) ∧ (decode cX12_wrong 103 = .ok (.iconst 1, 1))))) := by first | decide +kernel | ((repeat' apply And.intro) <;> decide +kernel)
theorem dX12_wrong_78 : decode cX12_wrong 78 = .ok (.iload_n 1, 1) := dB_3_3_16.1.1.1.1
theorem dX12_wrong_79 : decode cX12_wrong 79 = .ok (.imul, 1) := dB_3_3_16.1.1.1.2
theorem dX12_wrong_80 : decode cX12_wrong 80 = .ok (.iload_n 3, 1) := dB_3_3_16.1.1.2.1
theorem dX12_wrong_81 : decode cX12_wrong 81 = .ok (.iadd, 1) := dB_3_3_16.1.1.2.2
theorem dX12_wrong_82 : decode cX12_wrong 82 = .ok (.iaload, 1) := dB_3_3_16.1.2.1.1
theorem dX12_wrong_83 : decode cX12_wrong 83 = .ok (.istore 5, 2) := dB_3_3_16.1.2.1.2
theorem dX12_wrong_85 : decode cX12_wrong 85 = .ok (.iload 5, 2) := dB_3_3_16.1.2.2.1
theorem dX12_wrong_87 : decode cX12_wrong 87 = .ok (.bipush (-9), 2) := dB_3_3_16.1.2.2.2
theorem dX12_wrong_89 : decode cX12_wrong 89 = .ok (.if_icmp .ne 8, 3) := dB_3_3_16.2.1.1.1
theorem dX12_wrong_92 : decode cX12_wrong 92 = .ok (.bipush (-11), 2) := dB_3_3_16.2.1.1.2
theorem dX12_wrong_94 : decode cX12_wrong 94 = .ok (.goto 24, 3) := dB_3_3_16.2.1.2.1
theorem dX12_wrong_97 : decode cX12_wrong 97 = .ok (.iload 4, 2) := dB_3_3_16.2.1.2.2
theorem dX12_wrong_99 : decode cX12_wrong 99 = .ok (.i2l, 1) := dB_3_3_16.2.2.1.1
theorem dX12_wrong_100 : decode cX12_wrong 100 = .ok (.lconst 0, 1) := dB_3_3_16.2.2.1.2
theorem dX12_wrong_101 : decode cX12_wrong 101 = .ok (.iload 5, 2) := dB_3_3_16.2.2.2.1
theorem dX12_wrong_103 : decode cX12_wrong 103 = .ok (.iconst 1, 1) := dB_3_3_16.2.2.2.2
theorem dB_3_3_17 : ((((decode cX12_wrong 104 = .ok (.isub, 1)) ∧ (decode cX12_wrong 105 = .ok (.i2l, 1))) ∧ ((decode cX12_wrong 106 = .ok (.invokestatic 91, 3)) ∧ (decode cX12_wrong 109 = .ok (.ifCond .ne 8, 3)))) ∧ (((decode cX12_wrong 112 = .ok (.bipush (-12), 2)) ∧ (decode cX12_wrong 114 = .ok (.goto 4, 3))) ∧ ((decode cX12_wrong 117 = .ok (.iconst 0, 1)) ∧ (decode cX12_wrong 118 = .ok (.ireturn, 1))))) ∧ ((((decode cX12_put 0 = .ok (.aload_n 0, 1)) ∧ (decode cX12_put 1 = .ok (.iconst 0, 1))) ∧ ((decode cX12_put 2 = .ok (.putfield 85, 3)) ∧ (decode cX12_put 5 = .ok (.aload_n 0, 1)))) ∧ (((decode cX12_put 6 = .ok (.iconst 0, 1)) ∧ (decode cX12_put 7 = .ok (.putfield 240, 3))) ∧ ((decode cX12_put 10 = .ok (.aload_n 0, 1)) ∧ (decode cX12_put 11 = .ok (.iload_n 1, 1))))) := by first | decide +kernel | ((repeat' apply And.intro) <;> decide +kernel)
theorem dX12_wrong_104 : decode cX12_wrong 104 = .ok (.isub, 1) := dB_3_3_17.1.1.1.1
theorem dX12_wrong_105 : decode cX12_wrong 105 = .ok (.i2l, 1) := dB_3_3_17.1.1.1.2
theorem dX12_wrong_106 : decode cX12_wrong 106 = .ok (.invokestatic 91, 3) := dB_3_3_17.1.1.2.1
theorem dX12_wrong_109 : decode cX12_wrong 109 = .ok (.ifCond .ne 8, 3) := dB_3_3_17.1.1.2.2
theorem dX12_wrong_112 : decode cX12_wrong 112 = .ok (.bipush (-12), 2) := dB_3_3_17.1.2.1.1
theorem dX12_wrong_114 : decode cX12_wrong 114 = .ok (.goto 4, 3) := dB_3_3_17.1.2.1.2
theorem dX12_wrong_117 : decode cX12_wrong 117 = .ok (.iconst 0, 1) := dB_3_3_17.1.2.2.1
theorem dX12_wrong_118 : decode cX12_wrong 118 = .ok (.ireturn, 1) := dB_3_3_17.1.2.2.2
theorem dX12_put_0 : decode cX12_put 0 = .ok (.aload_n 0, 1) := dB_3_3_17.2.1.1.1
theorem dX12_put_1 : decode cX12_put 1 = .ok (.iconst 0, 1) := dB_3_3_17.2.1.1.2
theorem dX12_put_2 : decode cX12_put 2 = .ok (.putfield 85, 3) := dB_3_3_17.2.1.2.1
theorem dX12_put_5 : decode cX12_put 5 = .ok (.aload_n 0, 1) := dB_3_3_17.2.1.2.2
theorem dX12_put_6 : decode cX12_put 6 = .ok (.iconst 0, 1) := dB_3_3_17.2.2.1.1
theorem dX12_put_7 : decode cX12_put 7 = .ok (.putfield 240, 3) := dB_3_3_17.2.2.1.2
theorem dX12_put_10 : decode cX12_put 10 = .ok (.aload_n 0, 1) := dB_3_3_17.2.2.2.1
theorem dX12_put_11 : decode cX12_put 11 = .ok (.iload_n 1, 1) := dB_3_3_17.2.2.2.2
theorem dB_3_3_18 : ((((decode cX12_put 12 = .ok (.iload_n 2, 1)) ∧ (decode cX12_put 13 = .ok (.iload_n 3, 1))) ∧ ((decode cX12_put 14 = .ok (.iload 4, 2)) ∧ (decode cX12_put 16 = .ok (.invokevirtual 248, 3)))) ∧ (((decode cX12_put 19 = .ok (.istore 7, 2)) ∧ (decode cX12_put 21 = .ok (.iload 7, 2))) ∧ ((decode cX12_put 23 = .ok (.ifCond .ge 10, 3)) ∧ (decode cX12_put 26 = .ok (.aload_n 0, 1))))) ∧ ((((decode cX12_put 27 = .ok (.iload 7, 2)) ∧ (decode cX12_put 29 = .ok (.invokevirtual 245, 3))) ∧ ((decode cX12_put 32 = .ok (.ireturn, 1)) ∧ (decode cX12_put 33 = .ok (.aload_n 0, 1)))) ∧ (((decode cX12_put 34 = .ok (.getfield 50, 3)) ∧ (decode cX12_put 37 = .ok (.bipush 30, 2))) ∧ ((decode cX12_put 39 = .ok (.iload_n 1, 1)) ∧ (decode cX12_put 40 = .ok (.imul, 1))))) := by first | decide +kernel | ((repeat' apply And.intro) <;> decide +kernel)
theorem dX12_put_12 : decode cX12_put 12 = .ok (.iload_n 2, 1) := dB_3_3_18.1.1.1.1
theorem dX12_put_13 : decode cX12_put 13 = .ok (.iload_n 3, 1) := dB_3_3_18.1.1.1.2
theorem dX12_put_14 : decode cX12_put 14 = .ok (.iload 4, 2) := dB_3_3_18.1.1.2.1
theorem dX12_put_16 : decode cX12_put 16 = .ok (.invokevirtual 248, 3) := dB_3_3_18.1.1.2.2
theorem dX12_put_19 : decode cX12_put 19 = .ok (.istore 7, 2) := dB_3_3_18.1.2.1.1
theorem dX12_put_21 : decode cX12_put 21 = .ok (.iload 7, 2) := dB_3_3_18.1.2.1.2
theorem dX12_put_23 : decode cX12_put 23 = .ok (.ifCond .ge 10, 3) := dB_3_3_18.1.2.2.1
theorem dX12_put_26 : decode cX12_put 26 = .ok (.aload_n 0, 1) := dB_3_3_18.1.2.2.2
theorem dX12_put_27 : decode cX12_put 27 = .ok (.iload 7, 2) := dB_3_3_18.2.1.1.1
theorem dX12_put_29 : decode cX12_put 29 = .ok (.invokevirtual 245, 3) := dB_3_3_18.2.1.1.2
theorem dX12_put_32 : decode cX12_put 32 = .ok (.ireturn, 1) := dB_3_3_18.2.1.2.1
theorem dX12_put_33 : decode cX12_put 33 = .ok (.aload_n 0, 1) := dB_3_3_18.2.1.2.2
theorem dX12_put_34 : decode cX12_put 34 = .ok (.getfield 50, 3) := dB_3_3_18.2.2.1.1
theorem dX12_put_37 : decode cX12_put 37 = .ok (.bipush 30, 2) := dB_3_3_18.2.2.1.2
theorem dX12_put_39 : decode cX12_put 39 = .ok (.iload_n 1, 1) := dB_3_3_18.2.2.2.1
theorem dX12_put_40 : decode cX12_put 40 = .ok (.imul, 1) := dB_3_3_18.2.2.2.2
theorem dB_3_3_19 : ((((decode cX12_put 41 = .ok (.iconst 5, 1)) ∧ (decode cX12_put 42 = .ok (.iload_n 3, 1))) ∧ ((decode cX12_put 43 = .ok (.imul, 1)) ∧ (decode cX12_put 44 = .ok (.iadd, 1)))) ∧ (((decode cX12_put 45 = .ok (.iload 4, 2)) ∧ (decode cX12_put 47 = .ok (.iadd, 1))) ∧ ((decode cX12_put 48 = .ok (.iload_n 2, 1)) ∧ (decode cX12_put 49 = .ok (.ifCond .ne 11, 3))))) ∧ ((((decode cX12_put 52 = .ok (.lload 5, 2)) ∧ (decode cX12_put 54 = .ok (.l2i, 1))) ∧ ((decode cX12_put 55 = .ok (.i2s, 1)) ∧ (decode cX12_put 56 = .ok (.i2l, 1)))) ∧ (((decode cX12_put 57 = .ok (.goto 17, 3)) ∧ (decode cX12_put 60 = .ok (.iload_n 2, 1))) ∧ ((decode cX12_put 61 = .ok (.iconst 1, 1)) ∧ (decode cX12_put 62 = .ok (.if_icmp .ne 10, 3))))) := by first | decide +kernel | ((repeat' apply And.intro) <;> decide +kernel)
theorem dX12_put_41 : decode cX12_put 41 = .ok (.iconst 5, 1) := dB_3_3_19.1.1.1.1
theorem dX12_put_42 : decode cX12_put 42 = .ok (.iload_n 3, 1) := dB_3_3_19.1.1.1.2
theorem dX12_put_43 : decode cX12_put 43 = .ok (.imul, 1) := dB_3_3_19.1.1.2.1
theorem dX12_put_44 : decode cX12_put 44 = .ok (.iadd, 1) := dB_3_3_19.1.1.2.2
theorem dX12_put_45 : decode cX12_put 45 = .ok (.iload 4, 2) := dB_3_3_19.1.2.1.1
theorem dX12_put_47 : decode cX12_put 47 = .ok (.iadd, 1) := dB_3_3_19.1.2.1.2
theorem dX12_put_48 : decode cX12_put 48 = .ok (.iload_n 2, 1) := dB_3_3_19.1.2.2.1
theorem dX12_put_49 : decode cX12_put 49 = .ok (.ifCond .ne 11, 3) := dB_3_3_19.1.2.2.2
theorem dX12_put_52 : decode cX12_put 52 = .ok (.lload 5, 2) := dB_3_3_19.2.1.1.1
theorem dX12_put_54 : decode cX12_put 54 = .ok (.l2i, 1) := dB_3_3_19.2.1.1.2
theorem dX12_put_55 : decode cX12_put 55 = .ok (.i2s, 1) := dB_3_3_19.2.1.2.1
theorem dX12_put_56 : decode cX12_put 56 = .ok (.i2l, 1) := dB_3_3_19.2.1.2.2
theorem dX12_put_57 : decode cX12_put 57 = .ok (.goto 17, 3) := dB_3_3_19.2.2.1.1
theorem dX12_put_60 : decode cX12_put 60 = .ok (.iload_n 2, 1) := dB_3_3_19.2.2.1.2
theorem dX12_put_61 : decode cX12_put 61 = .ok (.iconst 1, 1) := dB_3_3_19.2.2.2.1
theorem dX12_put_62 : decode cX12_put 62 = .ok (.if_icmp .ne 10, 3) := dB_3_3_19.2.2.2.2
theorem dB_3_3_20 : ((((decode cX12_put 65 = .ok (.lload 5, 2)) ∧ (decode cX12_put 67 = .ok (.l2i, 1))) ∧ ((decode cX12_put 68 = .ok (.i2l, 1)) ∧ (decode cX12_put 69 = .ok (.goto 5, 3)))) ∧ (((decode cX12_put 72 = .ok (.lload 5, 2)) ∧ (decode cX12_put 74 = .ok (.lastore, 1))) ∧ ((decode cX12_put 75 = .ok (.iconst 1, 1)) ∧ (decode cX12_put 76 = .ok (.ireturn, 1))))) ∧ ((((decode cX12_areThere 0 = .ok (.iload_n 0, 1)) ∧ (decode cX12_areThere 1 = .ok (.ifCond .lt 22, 3))) ∧ ((decode cX12_areThere 4 = .ok (.iload_n 1, 1)) ∧ (decode cX12_areThere 5 = .ok (.ifCond .lt 18, 3)))) ∧ (((decode cX12_areThere 8 = .ok (.iload_n 0, 1)) ∧ (decode cX12_areThere 9 = .ok (.i2l, 1))) ∧ ((decode cX12_areThere 10 = .ok (.iload_n 1, 1)) ∧ (decode cX12_areThere 11 = .ok (.i2l, 1))))) := by first | decide +kernel | ((repeat' apply And.intro) <;> decide +kernel)
theorem dX12_put_65 : decode cX12_put 65 = .ok (.lload 5, 2) := dB_3_3_20.1.1.1.1
theorem dX12_put_67 : decode cX12_put 67 = .ok (.l2i, 1) := dB_3_3_20.1.1.1.2
theorem dX12_put_68 : decode cX12_put 68 = .ok (.i2l, 1) := dB_3_3_20.1.1.2.1
theorem dX12_put_69 : decode cX12_put 69 = .ok (.goto 5, 3) := dB_3_3_20.1.1.2.2
theorem dX12_put_72 : decode cX12_put 72 = .ok (.lload 5, 2) := dB_3_3_20.1.2.1.1
theorem dX12_put_74 : decode cX12_put 74 = .ok (.lastore, 1) := dB_3_3_20.1.2.1.2
theorem dX12_put_75 : decode cX12_put 75 = .ok (.iconst 1, 1) := dB_3_3_20.1.2.2.1
theorem dX12_put_76 : decode cX12_put 76 = .ok (.ireturn, 1) := dB_3_3_20.1.2.2.2
theorem dX12_areThere_0 : decode cX12_areThere 0 = .ok (.iload_n 0, 1) := dB_3_3_20.2.1.1.1
theorem dX12_areThere_1 : decode cX12_areThere 1 = .ok (.ifCond .lt 22, 3) := dB_3_3_20.2.1.1.2
theorem dX12_areThere_4 : decode cX12_areThere 4 = .ok (.iload_n 1, 1) := dB_3_3_20.2.1.2.1
theorem dX12_areThere_5 : decode cX12_areThere 5 = .ok (.ifCond .lt 18, 3) := dB_3_3_20.2.1.2.2
theorem dX12_areThere_8 : decode cX12_areThere 8 = .ok (.iload_n 0, 1) := dB_3_3_20.2.2.1.1
theorem dX12_areThere_9 : decode cX12_areThere 9 = .ok (.i2l, 1) := dB_3_3_20.2.2.1.2
theorem dX12_areThere_10 : decode cX12_areThere 10 = .ok (.iload_n 1, 1) := dB_3_3_20.2.2.2.1
theorem dX12_areThere_11 : decode cX12_areThere 11 = .ok (.i2l, 1) := dB_3_3_20.2.2.2.2
theorem dB_3_3_21 : ((((decode cX12_areThere 12 = .ok (.ladd, 1)) ∧ (decode cX12_areThere 13 = .ok (.iload_n 2, 1))) ∧ ((decode cX12_areThere 14 = .ok (.i2l, 1)) ∧ (decode cX12_areThere 15 = .ok (.lcmp, 1)))) ∧ (((decode cX12_areThere 16 = .ok (.ifCond .gt 7, 3)) ∧ (decode cX12_areThere 19 = .ok (.iconst 1, 1))) ∧ ((decode cX12_areThere 20 = .ok (.goto 4, 3)) ∧ (decode cX12_areThere 23 = .ok (.iconst 0, 1))))) ∧ ((((decode cX12_areThere 24 = .ok (.ireturn, 1)) ∧ (decode cX12_copy 0 = .ok (.aload_n 0, 1))) ∧ ((decode cX12_copy 1 = .ok (.iconst 0, 1)) ∧ (decode cX12_copy 2 = .ok (.putfield 85, 3)))) ∧ (((decode cX12_copy 5 = .ok (.aload_n 0, 1)) ∧ (decode cX12_copy 6 = .ok (.iconst 0, 1))) ∧ ((decode cX12_copy 7 = .ok (.putfield 240, 3)) ∧ (decode cX12_copy 10 = .ok (.iload_n 1, 1))))) := by first | decide +kernel | ((repeat' apply And.intro) <;> decide +kernel)
theorem dX12_areThere_12 : decode cX12_areThere 12 = .ok (.ladd, 1) := dB_3_3_21.1.1.1.1
theorem dX12_areThere_13 : decode cX12_areThere 13 = .ok (.iload_n 2, 1) := dB_3_3_21.1.1.1.2
theorem dX12_areThere_14 : decode cX12_areThere 14 = .ok (.i2l, 1) := dB_3_3_21.1.1.2.1
theorem dX12_areThere_15 : decode cX12_areThere 15 = .ok (.lcmp, 1) := dB_3_3_21.1.1.2.2
theorem dX12_areThere_16 : decode cX12_areThere 16 = .ok (.ifCond .gt 7, 3) := dB_3_3_21.1.2.1.1
theorem dX12_areThere_19 : decode cX12_areThere 19 = .ok (.iconst 1, 1) := dB_3_3_21.1.2.1.2
theorem dX12_areThere_20 : decode cX12_areThere 20 = .ok (.goto 4, 3) := dB_3_3_21.1.2.2.1
theorem dX12_areThere_23 : decode cX12_areThere 23 = .ok (.iconst 0, 1) := dB_3_3_21.1.2.2.2
theorem dX12_areThere_24 : decode cX12_areThere 24 = .ok (.ireturn, 1) := dB_3_3_21.2.1.1.1
theorem dX12_copy_0 : decode cX12_copy 0 = .ok (.aload_n 0, 1) := dB_3_3_21.2.1.1.2
theorem dX12_copy_1 : decode cX12_copy 1 = .ok (.iconst 0, 1) := dB_3_3_21.2.1.2.1
theorem dX12_copy_2 : decode cX12_copy 2 = .ok (.putfield 85, 3) := dB_3_3_21.2.1.2.2
theorem dX12_copy_5 : decode cX12_copy 5 = .ok (.aload_n 0, 1) := dB_3_3_21.2.2.1.1
theorem dX12_copy_6 : decode cX12_copy 6 = .ok (.iconst 0, 1) := dB_3_3_21.2.2.1.2
theorem dX12_copy_7 : decode cX12_copy 7 = .ok (.putfield 240, 3) := dB_3_3_21.2.2.2.1
theorem dX12_copy_10 : decode cX12_copy 10 = .ok (.iload_n 1, 1) := dB_3_3_21.2.2.2.2
theorem dB_3_3_22 : ((((decode cX12_copy 11 = .ok (.i2l, 1)) ∧ (decode cX12_copy 12 = .ok (.lconst 0, 1))) ∧ ((decode cX12_copy 13 = .ok (.ldc2_w 243, 3)) ∧ (decode cX12_copy 16 = .ok (.invokestatic 91, 3)))) ∧ (((decode cX12_copy 19 = .ok (.ifCond .ne 9, 3)) ∧ (decode cX12_copy 22 = .ok (.aload_n 0, 1))) ∧ ((decode cX12_copy 23 = .ok (.iconst (-1), 1)) ∧ (decode cX12_copy 24 = .ok (.invokevirtual 245, 3))))) ∧ ((((decode cX12_copy 27 = .ok (.ireturn, 1)) ∧ (decode cX12_copy 28 = .ok (.aload_n 0, 1))) ∧ ((decode cX12_copy 29 = .ok (.getfield 38, 3)) ∧ (decode cX12_copy 32 = .ok (.iload_n 1, 1)))) ∧ (((decode cX12_copy 33 = .ok (.baload, 1)) ∧ (decode cX12_copy 34 = .ok (.ifCond .ne 10, 3))) ∧ ((decode cX12_copy 37 = .ok (.aload_n 0, 1)) ∧ (decode cX12_copy 38 = .ok (.bipush (-11), 2))))) := by first | decide +kernel | ((repeat' apply And.intro) <;> decide +kernel)
theorem dX12_copy_11 : decode cX12_copy 11 = .ok (.i2l, 1) := dB_3_3_22.1.1.1.1
theorem dX12_copy_12 : decode cX12_copy 12 = .ok (.lconst 0, 1) := dB_3_3_22.1.1.1.2
theorem dX12_copy_13 : decode cX12_copy 13 = .ok (.ldc2_w 243, 3) := dB_3_3_22.1.1.2.1
theorem dX12_copy_16 : decode cX12_copy 16 = .ok (.invokestatic 91, 3) := dB_3_3_22.1.1.2.2
theorem dX12_copy_19 : decode cX12_copy 19 = .ok (.ifCond .ne 9, 3) := dB_3_3_22.1.2.1.1
theorem dX12_copy_22 : decode cX12_copy 22 = .ok (.aload_n 0, 1) := dB_3_3_22.1.2.1.2
theorem dX12_copy_23 : decode cX12_copy 23 = .ok (.iconst (-1), 1) := dB_3_3_22.1.2.2.1
theorem dX12_copy_24 : decode cX12_copy 24 = .ok (.invokevirtual 245, 3) := dB_3_3_22.1.2.2.2
theorem dX12_copy_27 : decode cX12_copy 27 = .ok (.ireturn, 1) := dB_3_3_22.2.1.1.1
theorem dX12_copy_28 : decode cX12_copy 28 = .ok (.aload_n 0, 1) := dB_3_3_22.2.1.1.2
theorem dX12_copy_29 : decode cX12_copy 29 = .ok (.getfield 38, 3) := dB_3_3_22.2.1.2.1
theorem dX12_copy_32 : decode cX12_copy 32 = .ok (.iload_n 1, 1) := dB_3_3_22.2.1.2.2
theorem dX12_copy_33 : decode cX12_copy 33 = .ok (.baload, 1) := dB_3_3_22.2.2.1.1
theorem dX12_copy_34 : decode cX12_copy 34 = .ok (.ifCond .ne 10, 3) := dB_3_3_22.2.2.1.2
theorem dX12_copy_37 : decode cX12_copy 37 = .ok (.aload_n 0, 1) := dB_3_3_22.2.2.2.1
theorem dX12_copy_38 : decode cX12_copy 38 = .ok (.bipush (-11), 2) := dB_3_3_22.2.2.2.2
theorem dB_3_3_23 : ((((decode cX12_copy 40 = .ok (.invokevirtual 245, 3)) ∧ (decode cX12_copy 43 = .ok (.ireturn, 1))) ∧ ((decode cX12_copy 44 = .ok (.iload_n 2, 1)) ∧ (decode cX12_copy 45 = .ok (.i2l, 1)))) ∧ (((decode cX12_copy 46 = .ok (.lconst 0, 1)) ∧ (decode cX12_copy 47 = .ok (.aload_n 0, 1))) ∧ ((decode cX12_copy 48 = .ok (.getfield 44, 3)) ∧ (decode cX12_copy 51 = .ok (.iload_n 1, 1))))) ∧ ((((decode cX12_copy 52 = .ok (.iaload, 1)) ∧ (decode cX12_copy 53 = .ok (.iconst 1, 1))) ∧ ((decode cX12_copy 54 = .ok (.isub, 1)) ∧ (decode cX12_copy 55 = .ok (.i2l, 1)))) ∧ (((decode cX12_copy 56 = .ok (.invokestatic 91, 3)) ∧ (decode cX12_copy 59 = .ok (.ifCond .eq 22, 3))) ∧ ((decode cX12_copy 62 = .ok (.iload 4, 2)) ∧ (decode cX12_copy 64 = .ok (.i2l, 1))))) := by first | decide +kernel | ((repeat' apply And.intro) <;> decide +kernel)
theorem dX12_copy_40 : decode cX12_copy 40 = .ok (.invokevirtual 245, 3) := dB_3_3_23.1.1.1.1
theorem dX12_copy_43 : decode cX12_copy 43 = .ok (.ireturn, 1) := dB_3_3_23.1.1.1.2
theorem dX12_copy_44 : decode cX12_copy 44 = .ok (.iload_n 2, 1) := dB_3_3_23.1.1.2.1
theorem dX12_copy_45 : decode cX12_copy 45 = .ok (.i2l, 1) := dB_3_3_23.1.1.2.2
theorem dX12_copy_46 : decode cX12_copy 46 = .ok (.lconst 0, 1) := dB_3_3_23.1.2.1.1
theorem dX12_copy_47 : decode cX12_copy 47 = .ok (.aload_n 0, 1) := dB_3_3_23.1.2.1.2
theorem dX12_copy_48 : decode cX12_copy 48 = .ok (.getfield 44, 3) := dB_3_3_23.1.2.2.1
theorem dX12_copy_51 : decode cX12_copy 51 = .ok (.iload_n 1, 1) := dB_3_3_23.1.2.2.2
theorem dX12_copy_52 : decode cX12_copy 52 = .ok (.iaload, 1) := dB_3_3_23.2.1.1.1
theorem dX12_copy_53 : decode cX12_copy 53 = .ok (.iconst 1, 1) := dB_3_3_23.2.1.1.2
theorem dX12_copy_54 : decode cX12_copy 54 = .ok (.isub, 1) := dB_3_3_23.2.1.2.1
theorem dX12_copy_55 : decode cX12_copy 55 = .ok (.i2l, 1) := dB_3_3_23.2.1.2.2
theorem dX12_copy_56 : decode cX12_copy 56 = .ok (.invokestatic 91, 3) := dB_3_3_23.2.2.1.1
theorem dX12_copy_59 : decode cX12_copy 59 = .ok (.ifCond .eq 22, 3) := dB_3_3_23.2.2.1.2
theorem dX12_copy_62 : decode cX12_copy 62 = .ok (.iload 4, 2) := dB_3_3_23.2.2.2.1
theorem dX12_copy_64 : decode cX12_copy 64 = .ok (.i2l, 1) := dB_3_3_23.2.2.2.2
theorem dB_3_3_24 : ((((decode cX12_copy 65 = .ok (.lconst 0, 1)) ∧ (decode cX12_copy 66 = .ok (.aload_n 0, 1))) ∧ ((decode cX12_copy 67 = .ok (.getfield 44, 3)) ∧ (decode cX12_copy 70 = .ok (.iload_n 1, 1)))) ∧ (((decode cX12_copy 71 = .ok (.iaload, 1)) ∧ (decode cX12_copy 72 = .ok (.iconst 1, 1))) ∧ ((decode cX12_copy 73 = .ok (.isub, 1)) ∧ (decode cX12_copy 74 = .ok (.i2l, 1))))) ∧ ((((decode cX12_copy 75 = .ok (.invokestatic 91, 3)) ∧ (decode cX12_copy 78 = .ok (.ifCond .ne 10, 3))) ∧ ((decode cX12_copy 81 = .ok (.aload_n 0, 1)) ∧ (decode cX12_copy 82 = .ok (.bipush (-12), 2)))) ∧ (((decode cX12_copy 84 = .ok (.invokevirtual 245, 3)) ∧ (decode cX12_copy 87 = .ok (.ireturn, 1))) ∧ ((decode cX12_copy 88 = .ok (.aload_n 0, 1)) ∧ (decode cX12_copy 89 = .ok (.getfield 47, 3))))) := by first | decide +kernel | ((repeat' apply And.intro) <;> decide +kernel)
theorem dX12_copy_65 : decode cX12_copy 65 = .ok (.lconst 0, 1) := dB_3_3_24.1.1.1.1
theorem dX12_copy_66 : decode cX12_copy 66 = .ok (.aload_n 0, 1) := dB_3_3_24.1.1.1.2
theorem dX12_copy_67 : decode cX12_copy 67 = .ok (.getfield 44, 3) := dB_3_3_24.1.1.2.1
theorem dX12_copy_70 : decode cX12_copy 70 = .ok (.iload_n 1, 1) := dB_3_3_24.1.1.2.2
theorem dX12_copy_71 : decode cX12_copy 71 = .ok (.iaload, 1) := dB_3_3_24.1.2.1.1
theorem dX12_copy_72 : decode cX12_copy 72 = .ok (.iconst 1, 1) := dB_3_3_24.1.2.1.2
theorem dX12_copy_73 : decode cX12_copy 73 = .ok (.isub, 1) := dB_3_3_24.1.2.2.1
theorem dX12_copy_74 : decode cX12_copy 74 = .ok (.i2l, 1) := dB_3_3_24.1.2.2.2
theorem dX12_copy_75 : decode cX12_copy 75 = .ok (.invokestatic 91, 3) := dB_3_3_24.2.1.1.1
theorem dX12_copy_78 : decode cX12_copy 78 = .ok (.ifCond .ne 10, 3) := dB_3_3_24.2.1.1.2
theorem dX12_copy_81 : decode cX12_copy 81 = .ok (.aload_n 0, 1) := dB_3_3_24.2.1.2.1
theorem dX12_copy_82 : decode cX12_copy 82 = .ok (.bipush (-12), 2) := dB_3_3_24.2.1.2.2
theorem dX12_copy_84 : decode cX12_copy 84 = .ok (.invokevirtual 245, 3) := dB_3_3_24.2.2.1.1
theorem dX12_copy_87 : decode cX12_copy 87 = .ok (.ireturn, 1) := dB_3_3_24.2.2.1.2
theorem dX12_copy_88 : decode cX12_copy 88 = .ok (.aload_n 0, 1) := dB_3_3_24.2.2.2.1
theorem dX12_copy_89 : decode cX12_copy 89 = .ok (.getfield 47, 3) := dB_3_3_24.2.2.2.2
theorem dB_3_3_25 : ((((decode cX12_copy 92 = .ok (.bipush 6, 2)) ∧ (decode cX12_copy 94 = .ok (.iload_n 1, 1))) ∧ ((decode cX12_copy 95 = .ok (.imul, 1)) ∧ (decode cX12_copy 96 = .ok (.iload_n 2, 1)))) ∧ (((decode cX12_copy 97 = .ok (.iadd, 1)) ∧ (decode cX12_copy 98 = .ok (.iaload, 1))) ∧ ((decode cX12_copy 99 = .ok (.istore 7, 2)) ∧ (decode cX12_copy 101 = .ok (.aload_n 0, 1))))) ∧ ((((decode cX12_copy 102 = .ok (.getfield 47, 3)) ∧ (decode cX12_copy 105 = .ok (.bipush 6, 2))) ∧ ((decode cX12_copy 107 = .ok (.iload_n 1, 1)) ∧ (decode cX12_copy 108 = .ok (.imul, 1)))) ∧ (((decode cX12_copy 109 = .ok (.iload 4, 2)) ∧ (decode cX12_copy 111 = .ok (.iadd, 1))) ∧ ((decode cX12_copy 112 = .ok (.iaload, 1)) ∧ (decode cX12_copy 113 = .ok (.istore 8, 2))))) := by first | decide +kernel | ((repeat' apply And.intro) <;> decide +kernel)
theorem dX12_copy_92 : decode cX12_copy 92 = .ok (.bipush 6, 2) := dB_3_3_25.1.1.1.1
theorem dX12_copy_94 : decode cX12_copy 94 = .ok (.iload_n 1, 1) := dB_3_3_25.1.1.1.2
theorem dX12_copy_95 : decode cX12_copy 95 = .ok (.imul, 1) := dB_3_3_25.1.1.2.1
theorem dX12_copy_96 : decode cX12_copy 96 = .ok (.iload_n 2, 1) := dB_3_3_25.1.1.2.2
theorem dX12_copy_97 : decode cX12_copy 97 = .ok (.iadd, 1) := dB_3_3_25.1.2.1.1
theorem dX12_copy_98 : decode cX12_copy 98 = .ok (.iaload, 1) := dB_3_3_25.1.2.1.2
theorem dX12_copy_99 : decode cX12_copy 99 = .ok (.istore 7, 2) := dB_3_3_25.1.2.2.1
theorem dX12_copy_101 : decode cX12_copy 101 = .ok (.aload_n 0, 1) := dB_3_3_25.1.2.2.2
theorem dX12_copy_102 : decode cX12_copy 102 = .ok (.getfield 47, 3) := dB_3_3_25.2.1.1.1
theorem dX12_copy_105 : decode cX12_copy 105 = .ok (.bipush 6, 2) := dB_3_3_25.2.1.1.2
theorem dX12_copy_107 : decode cX12_copy 107 = .ok (.iload_n 1, 1) := dB_3_3_25.2.1.2.1
theorem dX12_copy_108 : decode cX12_copy 108 = .ok (.imul, 1) := dB_3_3_25.2.1.2.2
theorem dX12_copy_109 : decode cX12_copy 109 = .ok (.iload 4, 2) := dB_3_3_25.2.2.1.1
theorem dX12_copy_111 : decode cX12_copy 111 = .ok (.iadd, 1) := dB_3_3_25.2.2.1.2
theorem dX12_copy_112 : decode cX12_copy 112 = .ok (.iaload, 1) := dB_3_3_25.2.2.2.1
theorem dX12_copy_113 : decode cX12_copy 113 = .ok (.istore 8, 2) := dB_3_3_25.2.2.2.2
theorem dB_3_3_26 : ((((decode cX12_copy 115 = .ok (.iload 7, 2)) ∧ (decode cX12_copy 117 = .ok (.bipush (-9), 2))) ∧ ((decode cX12_copy 119 = .ok (.if_icmp .eq 10, 3)) ∧ (decode cX12_copy 122 = .ok (.iload 8, 2)))) ∧ (((decode cX12_copy 124 = .ok (.bipush (-9), 2)) ∧ (decode cX12_copy 126 = .ok (.if_icmp .ne 10, 3))) ∧ ((decode cX12_copy 129 = .ok (.aload_n 0, 1)) ∧ (decode cX12_copy 130 = .ok (.bipush (-11), 2))))) ∧ ((((decode cX12_copy 132 = .ok (.invokevirtual 245, 3)) ∧ (decode cX12_copy 135 = .ok (.ireturn, 1))) ∧ ((decode cX12_copy 136 = .ok (.iload_n 3, 1)) ∧ (decode cX12_copy 137 = .ok (.iload 6, 2)))) ∧ (((decode cX12_copy 139 = .ok (.iload 7, 2)) ∧ (decode cX12_copy 141 = .ok (.invokestatic 252, 3))) ∧ ((decode cX12_copy 144 = .ok (.ifCond .eq 15, 3)) ∧ (decode cX12_copy 147 = .ok (.iload 5, 2))))) := by first | decide +kernel | ((repeat' apply And.intro) <;> decide +kernel)
theorem dX12_copy_115 : decode cX12_copy 115 = .ok (.iload 7, 2) := dB_3_3_26.1.1.1.1
theorem dX12_copy_117 : decode cX12_copy 117 = .ok (.bipush (-9), 2) := dB_3_3_26.1.1.1.2
theorem dX12_copy_119 : decode cX12_copy 119 = .ok (.if_icmp .eq 10, 3) := dB_3_3_26.1.1.2.1
theorem dX12_copy_122 : decode cX12_copy 122 = .ok (.iload 8, 2) := dB_3_3_26.1.1.2.2
theorem dX12_copy_124 : decode cX12_copy 124 = .ok (.bipush (-9), 2) := dB_3_3_26.1.2.1.1
theorem dX12_copy_126 : decode cX12_copy 126 = .ok (.if_icmp .ne 10, 3) := dB_3_3_26.1.2.1.2
theorem dX12_copy_129 : decode cX12_copy 129 = .ok (.aload_n 0, 1) := dB_3_3_26.1.2.2.1
theorem dX12_copy_130 : decode cX12_copy 130 = .ok (.bipush (-11), 2) := dB_3_3_26.1.2.2.2
theorem dX12_copy_132 : decode cX12_copy 132 = .ok (.invokevirtual 245, 3) := dB_3_3_26.2.1.1.1
theorem dX12_copy_135 : decode cX12_copy 135 = .ok (.ireturn, 1) := dB_3_3_26.2.1.1.2
theorem dX12_copy_136 : decode cX12_copy 136 = .ok (.iload_n 3, 1) := dB_3_3_26.2.1.2.1
theorem dX12_copy_137 : decode cX12_copy 137 = .ok (.iload 6, 2) := dB_3_3_26.2.1.2.2
theorem dX12_copy_139 : decode cX12_copy 139 = .ok (.iload 7, 2) := dB_3_3_26.2.2.1.1
theorem dX12_copy_141 : decode cX12_copy 141 = .ok (.invokestatic 252, 3) := dB_3_3_26.2.2.1.2
theorem dX12_copy_144 : decode cX12_copy 144 = .ok (.ifCond .eq 15, 3) := dB_3_3_26.2.2.2.1
theorem dX12_copy_147 : decode cX12_copy 147 = .ok (.iload 5, 2) := dB_3_3_26.2.2.2.2
theorem dB_3_3_27 : ((((decode cX12_copy 149 = .ok (.iload 6, 2)) ∧ (decode cX12_copy 151 = .ok (.iload 8, 2))) ∧ ((decode cX12_copy 153 = .ok (.invokestatic 252, 3)) ∧ (decode cX12_copy 156 = .ok (.ifCond .ne 10, 3)))) ∧ (((decode cX12_copy 159 = .ok (.aload_n 0, 1)) ∧ (decode cX12_copy 160 = .ok (.bipush (-12), 2))) ∧ ((decode cX12_copy 162 = .ok (.invokevirtual 245, 3)) ∧ (decode cX12_copy 165 = .ok (.ireturn, 1))))) ∧ ((((decode cX12_copy 166 = .ok (.iconst 0, 1)) ∧ (decode cX12_copy 167 = .ok (.istore 9, 2))) ∧ ((decode cX12_copy 169 = .ok (.iload 9, 2)) ∧ (decode cX12_copy 171 = .ok (.iload 6, 2)))) ∧ (((decode cX12_copy 173 = .ok (.if_icmp .ge 34, 3)) ∧ (decode cX12_copy 176 = .ok (.aload_n 0, 1))) ∧ ((decode cX12_copy 177 = .ok (.getfield 54, 3)) ∧ (decode cX12_copy 180 = .ok (.iload 9, 2))))) := by first | decide +kernel | ((repeat' apply And.intro) <;> decide +kernel)
theorem dX12_copy_149 : decode cX12_copy 149 = .ok (.iload 6, 2) := dB_3_3_27.1.1.1.1
theorem dX12_copy_151 : decode cX12_copy 151 = .ok (.iload 8, 2) := dB_3_3_27.1.1.1.2
theorem dX12_copy_153 : decode cX12_copy 153 = .ok (.invokestatic 252, 3) := dB_3_3_27.1.1.2.1
theorem dX12_copy_156 : decode cX12_copy 156 = .ok (.ifCond .ne 10, 3) := dB_3_3_27.1.1.2.2
theorem dX12_copy_159 : decode cX12_copy 159 = .ok (.aload_n 0, 1) := dB_3_3_27.1.2.1.1
theorem dX12_copy_160 : decode cX12_copy 160 = .ok (.bipush (-12), 2) := dB_3_3_27.1.2.1.2
theorem dX12_copy_162 : decode cX12_copy 162 = .ok (.invokevirtual 245, 3) := dB_3_3_27.1.2.2.1
theorem dX12_copy_165 : decode cX12_copy 165 = .ok (.ireturn, 1) := dB_3_3_27.1.2.2.2
theorem dX12_copy_166 : decode cX12_copy 166 = .ok (.iconst 0, 1) := dB_3_3_27.2.1.1.1
theorem dX12_copy_167 : decode cX12_copy 167 = .ok (.istore 9, 2) := dB_3_3_27.2.1.1.2
theorem dX12_copy_169 : decode cX12_copy 169 = .ok (.iload 9, 2) := dB_3_3_27.2.1.2.1
theorem dX12_copy_171 : decode cX12_copy 171 = .ok (.iload 6, 2) := dB_3_3_27.2.1.2.2
theorem dX12_copy_173 : decode cX12_copy 173 = .ok (.if_icmp .ge 34, 3) := dB_3_3_27.2.2.1.1
theorem dX12_copy_176 : decode cX12_copy 176 = .ok (.aload_n 0, 1) := dB_3_3_27.2.2.1.2
theorem dX12_copy_177 : decode cX12_copy 177 = .ok (.getfield 54, 3) := dB_3_3_27.2.2.2.1
theorem dX12_copy_180 : decode cX12_copy 180 = .ok (.iload 9, 2) := dB_3_3_27.2.2.2.2
theorem dB_3_3_28 : ((((decode cX12_copy 182 = .ok (.aload_n 0, 1)) ∧ (decode cX12_copy 183 = .ok (.getfield 50, 3))) ∧ ((decode cX12_copy 186 = .ok (.bipush 30, 2)) ∧ (decode cX12_copy 188 = .ok (.iload_n 1, 1)))) ∧ (((decode cX12_copy 189 = .ok (.imul, 1)) ∧ (decode cX12_copy 190 = .ok (.iconst 5, 1))) ∧ ((decode cX12_copy 191 = .ok (.iload_n 2, 1)) ∧ (decode cX12_copy 192 = .ok (.imul, 1))))) ∧ ((((decode cX12_copy 193 = .ok (.iadd, 1)) ∧ (decode cX12_copy 194 = .ok (.iload_n 3, 1))) ∧ ((decode cX12_copy 195 = .ok (.iadd, 1)) ∧ (decode cX12_copy 196 = .ok (.iload 9, 2)))) ∧ (((decode cX12_copy 198 = .ok (.iadd, 1)) ∧ (decode cX12_copy 199 = .ok (.laload, 1))) ∧ ((decode cX12_copy 200 = .ok (.lastore, 1)) ∧ (decode cX12_copy 201 = .ok (.iinc 9 1, 3))))) := by first | decide +kernel | ((repeat' apply And.intro) <;> decide +kernel)
theorem dX12_copy_182 : decode cX12_copy 182 = .ok (.aload_n 0, 1) := dB_3_3_28.1.1.1.1
theorem dX12_copy_183 : decode cX12_copy 183 = .ok (.getfield 50, 3) := dB_3_3_28.1.1.1.2
theorem dX12_copy_186 : decode cX12_copy 186 = .ok (.bipush 30, 2) := dB_3_3_28.1.1.2.1
theorem dX12_copy_188 : decode cX12_copy 188 = .ok (.iload_n 1, 1) := dB_3_3_28.1.1.2.2
theorem dX12_copy_189 : decode cX12_copy 189 = .ok (.imul, 1) := dB_3_3_28.1.2.1.1
theorem dX12_copy_190 : decode cX12_copy 190 = .ok (.iconst 5, 1) := dB_3_3_28.1.2.1.2
theorem dX12_copy_191 : decode cX12_copy 191 = .ok (.iload_n 2, 1) := dB_3_3_28.1.2.2.1
theorem dX12_copy_192 : decode cX12_copy 192 = .ok (.imul, 1) := dB_3_3_28.1.2.2.2
theorem dX12_copy_193 : decode cX12_copy 193 = .ok (.iadd, 1) := dB_3_3_28.2.1.1.1
theorem dX12_copy_194 : decode cX12_copy 194 = .ok (.iload_n 3, 1) := dB_3_3_28.2.1.1.2
theorem dX12_copy_195 : decode cX12_copy 195 = .ok (.iadd, 1) := dB_3_3_28.2.1.2.1
theorem dX12_copy_196 : decode cX12_copy 196 = .ok (.iload 9, 2) := dB_3_3_28.2.1.2.2
theorem dX12_copy_198 : decode cX12_copy 198 = .ok (.iadd, 1) := dB_3_3_28.2.2.1.1
theorem dX12_copy_199 : decode cX12_copy 199 = .ok (.laload, 1) := dB_3_3_28.2.2.1.2
theorem dX12_copy_200 : decode cX12_copy 200 = .ok (.lastore, 1) := dB_3_3_28.2.2.2.1
theorem dX12_copy_201 : decode cX12_copy 201 = .ok (.iinc 9 1, 3) := dB_3_3_28.2.2.2.2
theorem dB_3_3_29 : ((((decode cX12_copy 204 = .ok (.goto (-35), 3)) ∧ (decode cX12_copy 207 = .ok (.iconst 0, 1))) ∧ ((decode cX12_copy 208 = .ok (.istore 9, 2)) ∧ (decode cX12_copy 210 = .ok (.iload 9, 2)))) ∧ (((decode cX12_copy 212 = .ok (.iload 6, 2)) ∧ (decode cX12_copy 214 = .ok (.if_icmp .ge 36, 3))) ∧ ((decode cX12_copy 217 = .ok (.aload_n 0, 1)) ∧ (decode cX12_copy 218 = .ok (.getfield 50, 3))))) ∧ ((((decode cX12_copy 221 = .ok (.bipush 30, 2)) ∧ (decode cX12_copy 223 = .ok (.iload_n 1, 1))) ∧ ((decode cX12_copy 224 = .ok (.imul, 1)) ∧ (decode cX12_copy 225 = .ok (.iconst 5, 1)))) ∧ (((decode cX12_copy 226 = .ok (.iload 4, 2)) ∧ (decode cX12_copy 228 = .ok (.imul, 1))) ∧ ((decode cX12_copy 229 = .ok (.iadd, 1)) ∧ (decode cX12_copy 230 = .ok (.iload 5, 2))))) := by first | decide +kernel | ((repeat' apply And.intro) <;> decide +kernel)
theorem dX12_copy_204 : decode cX12_copy 204 = .ok (.goto (-35), 3) := dB_3_3_29.1.1.1.1
theorem dX12_copy_207 : decode cX12_copy 207 = .ok (.iconst 0, 1) := dB_3_3_29.1.1.1.2
theorem dX12_copy_208 : decode cX12_copy 208 = .ok (.istore 9, 2) := dB_3_3_29.1.1.2.1
theorem dX12_copy_210 : decode cX12_copy 210 = .ok (.iload 9, 2) := dB_3_3_29.1.1.2.2
theorem dX12_copy_212 : decode cX12_copy 212 = .ok (.iload 6, 2) := dB_3_3_29.1.2.1.1
theorem dX12_copy_214 : decode cX12_copy 214 = .ok (.if_icmp .ge 36, 3) := dB_3_3_29.1.2.1.2
theorem dX12_copy_217 : decode cX12_copy 217 = .ok (.aload_n 0, 1) := dB_3_3_29.1.2.2.1
theorem dX12_copy_218 : decode cX12_copy 218 = .ok (.getfield 50, 3) := dB_3_3_29.1.2.2.2
theorem dX12_copy_221 : decode cX12_copy 221 = .ok (.bipush 30, 2) := dB_3_3_29.2.1.1.1
theorem dX12_copy_223 : decode cX12_copy 223 = .ok (.iload_n 1, 1) := dB_3_3_29.2.1.1.2
theorem dX12_copy_224 : decode cX12_copy 224 = .ok (.imul, 1) := dB_3_3_29.2.1.2.1
theorem dX12_copy_225 : decode cX12_copy 225 = .ok (.iconst 5, 1) := dB_3_3_29.2.1.2.2
theorem dX12_copy_226 : decode cX12_copy 226 = .ok (.iload 4, 2) := dB_3_3_29.2.2.1.1
theorem dX12_copy_228 : decode cX12_copy 228 = .ok (.imul, 1) := dB_3_3_29.2.2.1.2
theorem dX12_copy_229 : decode cX12_copy 229 = .ok (.iadd, 1) := dB_3_3_29.2.2.2.1
theorem dX12_copy_230 : decode cX12_copy 230 = .ok (.iload 5, 2) := dB_3_3_29.2.2.2.2
theorem dB_3_3_30 : ((((decode cX12_copy 232 = .ok (.iadd, 1)) ∧ (decode cX12_copy 233 = .ok (.iload 9, 2))) ∧ ((decode cX12_copy 235 = .ok (.iadd, 1)) ∧ (decode cX12_copy 236 = .ok (.aload_n 0, 1)))) ∧ (((decode cX12_copy 237 = .ok (.getfield 54, 3)) ∧ (decode cX12_copy 240 = .ok (.iload 9, 2))) ∧ ((decode cX12_copy 242 = .ok (.laload, 1)) ∧ (decode cX12_copy 243 = .ok (.lastore, 1))))) ∧ ((((decode cX12_copy 244 = .ok (.iinc 9 1, 3)) ∧ (decode cX12_copy 247 = .ok (.goto (-37), 3))) ∧ ((decode cX12_copy 250 = .ok (.iload 6, 2)) ∧ (decode cX12_copy 252 = .ok (.ireturn, 1)))) ∧ (((decode cX12_item 0 = .ok (.aload_n 0, 1)) ∧ (decode cX12_item 1 = .ok (.iconst 0, 1))) ∧ ((decode cX12_item 2 = .ok (.putfield 85, 3)) ∧ (decode cX12_item 5 = .ok (.aload_n 0, 1))))) := by first | decide +kernel | ((repeat' apply And.intro) <;> decide +kernel)
theorem dX12_copy_232 : decode cX12_copy 232 = .ok (.iadd, 1) := dB_3_3_30.1.1.1.1
theorem dX12_copy_233 : decode cX12_copy 233 = .ok (.iload 9, 2) := dB_3_3_30.1.1.1.2
theorem dX12_copy_235 : decode cX12_copy 235 = .ok (.iadd, 1) := dB_3_3_30.1.1.2.1
theorem dX12_copy_236 : decode cX12_copy 236 = .ok (.aload_n 0, 1) := dB_3_3_30.1.1.2.2
theorem dX12_copy_237 : decode cX12_copy 237 = .ok (.getfield 54, 3) := dB_3_3_30.1.2.1.1
theorem dX12_copy_240 : decode cX12_copy 240 = .ok (.iload 9, 2) := dB_3_3_30.1.2.1.2
theorem dX12_copy_242 : decode cX12_copy 242 = .ok (.laload, 1) := dB_3_3_30.1.2.2.1
theorem dX12_copy_243 : decode cX12_copy 243 = .ok (.lastore, 1) := dB_3_3_30.1.2.2.2
theorem dX12_copy_244 : decode cX12_copy 244 = .ok (.iinc 9 1, 3) := dB_3_3_30.2.1.1.1
theorem dX12_copy_247 : decode cX12_copy 247 = .ok (.goto (-37), 3) := dB_3_3_30.2.1.1.2
theorem dX12_copy_250 : decode cX12_copy 250 = .ok (.iload 6, 2) := dB_3_3_30.2.1.2.1
theorem dX12_copy_252 : decode cX12_copy 252 = .ok (.ireturn, 1) := dB_3_3_30.2.1.2.2
theorem dX12_item_0 : decode cX12_item 0 = .ok (.aload_n 0, 1) := dB_3_3_30.2.2.1.1
theorem dX12_item_1 : decode cX12_item 1 = .ok (.iconst 0, 1) := dB_3_3_30.2.2.1.2
theorem dX12_item_2 : decode cX12_item 2 = .ok (.putfield 85, 3) := dB_3_3_30.2.2.2.1
theorem dX12_item_5 : decode cX12_item 5 = .ok (.aload_n 0, 1) := dB_3_3_30.2.2.2.2
theorem dB_3_3_31 : ((((decode cX12_item 6 = .ok (.aload_n 0, 1)) ∧ (decode cX12_item 7 = .ok (.iload_n 1, 1))) ∧ ((decode cX12_item 8 = .ok (.iload_n 2, 1)) ∧ (decode cX12_item 9 = .ok (.iload_n 3, 1)))) ∧ (((decode cX12_item 10 = .ok (.iload 4, 2)) ∧ (decode cX12_item 12 = .ok (.invokevirtual 248, 3))) ∧ ((decode cX12_item 15 = .ok (.putfield 240, 3)) ∧ (decode cX12_item 18 = .ok (.aload_n 0, 1))))) ∧ ((((decode cX12_item 19 = .ok (.getfield 240, 3)) ∧ (decode cX12_item 22 = .ok (.ifCond .ge 7, 3))) ∧ ((decode cX12_item 25 = .ok (.lconst 0, 1)) ∧ (decode cX12_item 26 = .ok (.goto 19, 3)))) ∧ (((decode cX12_item 29 = .ok (.aload_n 0, 1)) ∧ (decode cX12_item 30 = .ok (.getfield 50, 3))) ∧ ((decode cX12_item 33 = .ok (.bipush 30, 2)) ∧ (decode cX12_item 35 = .ok (.iload_n 1, 1))))) := by first | decide +kernel | ((repeat' apply And.intro) <;> decide +kernel)
theorem dX12_item_6 : decode cX12_item 6 = .ok (.aload_n 0, 1) := dB_3_3_31.1.1.1.1
theorem dX12_item_7 : decode cX12_item 7 = .ok (.iload_n 1, 1) := dB_3_3_31.1.1.1.2
theorem dX12_item_8 : decode cX12_item 8 = .ok (.iload_n 2, 1) := dB_3_3_31.1.1.2.1
theorem dX12_item_9 : decode cX12_item 9 = .ok (.iload_n 3, 1) := dB_3_3_31.1.1.2.2
theorem dX12_item_10 : decode cX12_item 10 = .ok (.iload 4, 2) := dB_3_3_31.1.2.1.1
theorem dX12_item_12 : decode cX12_item 12 = .ok (.invokevirtual 248, 3) := dB_3_3_31.1.2.1.2
theorem dX12_item_15 : decode cX12_item 15 = .ok (.putfield 240, 3) := dB_3_3_31.1.2.2.1
theorem dX12_item_18 : decode cX12_item 18 = .ok (.aload_n 0, 1) := dB_3_3_31.1.2.2.2
theorem dX12_item_19 : decode cX12_item 19 = .ok (.getfield 240, 3) := dB_3_3_31.2.1.1.1
theorem dX12_item_22 : decode cX12_item 22 = .ok (.ifCond .ge 7, 3) := dB_3_3_31.2.1.1.2
theorem dX12_item_25 : decode cX12_item 25 = .ok (.lconst 0, 1) := dB_3_3_31.2.1.2.1
theorem dX12_item_26 : decode cX12_item 26 = .ok (.goto 19, 3) := dB_3_3_31.2.1.2.2
theorem dX12_item_29 : decode cX12_item 29 = .ok (.aload_n 0, 1) := dB_3_3_31.2.2.1.1
theorem dX12_item_30 : decode cX12_item 30 = .ok (.getfield 50, 3) := dB_3_3_31.2.2.1.2
theorem dX12_item_33 : decode cX12_item 33 = .ok (.bipush 30, 2) := dB_3_3_31.2.2.2.1
theorem dX12_item_35 : decode cX12_item 35 = .ok (.iload_n 1, 1) := dB_3_3_31.2.2.2.2
theorem dB_3_3_32 : ((((decode cX12_item 36 = .ok (.imul, 1)) ∧ (decode cX12_item 37 = .ok (.iconst 5, 1))) ∧ ((decode cX12_item 38 = .ok (.iload_n 3, 1)) ∧ (decode cX12_item 39 = .ok (.imul, 1)))) ∧ (((decode cX12_item 40 = .ok (.iadd, 1)) ∧ (decode cX12_item 41 = .ok (.iload 4, 2))) ∧ ((decode cX12_item 43 = .ok (.iadd, 1)) ∧ (decode cX12_item 44 = .ok (.laload, 1))))) ∧ ((((decode cX12_item 45 = .ok (.lreturn, 1)) ∧ (decode cX12_read 0 = .ok (.aload_n 0, 1))) ∧ ((decode cX12_read 1 = .ok (.iconst 0, 1)) ∧ (decode cX12_read 2 = .ok (.putfield 85, 3)))) ∧ (((decode cX12_read 5 = .ok (.aload_n 0, 1)) ∧ (decode cX12_read 6 = .ok (.iconst 0, 1))) ∧ ((decode cX12_read 7 = .ok (.putfield 240, 3)) ∧ (decode cX12_read 10 = .ok (.iload_n 1, 1))))) := by first | decide +kernel | ((repeat' apply And.intro) <;> decide +kernel)
theorem dX12_item_36 : decode cX12_item 36 = .ok (.imul, 1) := dB_3_3_32.1.1.1.1
theorem dX12_item_37 : decode cX12_item 37 = .ok (.iconst 5, 1) := dB_3_3_32.1.1.1.2
theorem dX12_item_38 : decode cX12_item 38 = .ok (.iload_n 3, 1) := dB_3_3_32.1.1.2.1
theorem dX12_item_39 : decode cX12_item 39 = .ok (.imul, 1) := dB_3_3_32.1.1.2.2
theorem dX12_item_40 : decode cX12_item 40 = .ok (.iadd, 1) := dB_3_3_32.1.2.1.1
theorem dX12_item_41 : decode cX12_item 41 = .ok (.iload 4, 2) := dB_3_3_32.1.2.1.2
theorem dX12_item_43 : decode cX12_item 43 = .ok (.iadd, 1) := dB_3_3_32.1.2.2.1
theorem dX12_item_44 : decode cX12_item 44 = .ok (.laload, 1) := dB_3_3_32.1.2.2.2
theorem dX12_item_45 : decode cX12_item 45 = .ok (.lreturn, 1) := dB_3_3_32.2.1.1.1
theorem dX12_read_0 : decode cX12_read 0 = .ok (.aload_n 0, 1) := dB_3_3_32.2.1.1.2
theorem dX12_read_1 : decode cX12_read 1 = .ok (.iconst 0, 1) := dB_3_3_32.2.1.2.1
theorem dX12_read_2 : decode cX12_read 2 = .ok (.putfield 85, 3) := dB_3_3_32.2.1.2.2
theorem dX12_read_5 : decode cX12_read 5 = .ok (.aload_n 0, 1) := dB_3_3_32.2.2.1.1
theorem dX12_read_6 : decode cX12_read 6 = .ok (.iconst 0, 1) := dB_3_3_32.2.2.1.2
theorem dX12_read_7 : decode cX12_read 7 = .ok (.putfield 240, 3) := dB_3_3_32.2.2.2.1
theorem dX12_read_10 : decode cX12_read 10 = .ok (.iload_n 1, 1) := dB_3_3_32.2.2.2.2
theorem dB_3_3_33 : ((((decode cX12_read 11 = .ok (.i2l, 1)) ∧ (decode cX12_read 12 = .ok (.lconst 0, 1))) ∧ ((decode cX12_read 13 = .ok (.ldc2_w 243, 3)) ∧ (decode cX12_read 16 = .ok (.invokestatic 91, 3)))) ∧ (((decode cX12_read 19 = .ok (.ifCond .ne 9, 3)) ∧ (decode cX12_read 22 = .ok (.aload_n 0, 1))) ∧ ((decode cX12_read 23 = .ok (.iconst (-1), 1)) ∧ (decode cX12_read 24 = .ok (.invokevirtual 245, 3))))) ∧ ((((decode cX12_read 27 = .ok (.ireturn, 1)) ∧ (decode cX12_read 28 = .ok (.aload_n 0, 1))) ∧ ((decode cX12_read 29 = .ok (.getfield 38, 3)) ∧ (decode cX12_read 32 = .ok (.iload_n 1, 1)))) ∧ (((decode cX12_read 33 = .ok (.baload, 1)) ∧ (decode cX12_read 34 = .ok (.ifCond .ne 11, 3))) ∧ ((decode cX12_read 37 = .ok (.aload_n 0, 1)) ∧ (decode cX12_read 38 = .ok (.bipush (-11), 2))))) := by first | decide +kernel | ((repeat' apply And.intro) <;> decide +kernel)
theorem dX12_read_11 : decode cX12_read 11 = .ok (.i2l, 1) := dB_3_3_33.1.1.1.1
theorem dX12_read_12 : decode cX12_read 12 = .ok (.lconst 0, 1) := dB_3_3_33.1.1.1.2
theorem dX12_read_13 : decode cX12_read 13 = .ok (.ldc2_w 243, 3) := dB_3_3_33.1.1.2.1
theorem dX12_read_16 : decode cX12_read 16 = .ok (.invokestatic 91, 3) := dB_3_3_33.1.1.2.2
theorem dX12_read_19 : decode cX12_read 19 = .ok (.ifCond .ne 9, 3) := dB_3_3_33.1.2.1.1
theorem dX12_read_22 : decode cX12_read 22 = .ok (.aload_n 0, 1) := dB_3_3_33.1.2.1.2
theorem dX12_read_23 : decode cX12_read 23 = .ok (.iconst (-1), 1) := dB_3_3_33.1.2.2.1
theorem dX12_read_24 : decode cX12_read 24 = .ok (.invokevirtual 245, 3) := dB_3_3_33.1.2.2.2
theorem dX12_read_27 : decode cX12_read 27 = .ok (.ireturn, 1) := dB_3_3_33.2.1.1.1
theorem dX12_read_28 : decode cX12_read 28 = .ok (.aload_n 0, 1) := dB_3_3_33.2.1.1.2
theorem dX12_read_29 : decode cX12_read 29 = .ok (.getfield 38, 3) := dB_3_3_33.2.1.2.1
theorem dX12_read_32 : decode cX12_read 32 = .ok (.iload_n 1, 1) := dB_3_3_33.2.1.2.2
theorem dX12_read_33 : decode cX12_read 33 = .ok (.baload, 1) := dB_3_3_33.2.2.1.1
theorem dX12_read_34 : decode cX12_read 34 = .ok (.ifCond .ne 11, 3) := dB_3_3_33.2.2.1.2
theorem dX12_read_37 : decode cX12_read 37 = .ok (.aload_n 0, 1) := dB_3_3_33.2.2.2.1
theorem dX12_read_38 : decode cX12_read 38 = .ok (.bipush (-11), 2) := dB_3_3_33.2.2.2.2
theorem dB_3_3_34 : ((((decode cX12_read 40 = .ok (.putfield 240, 3)) ∧ (decode cX12_read 43 = .ok (.iconst 0, 1))) ∧ ((decode cX12_read 44 = .ok (.ireturn, 1)) ∧ (decode cX12_read 45 = .ok (.iconst 0, 1)))) ∧ (((decode cX12_read 46 = .ok (.istore_n 2, 1)) ∧ (decode cX12_read 47 = .ok (.iconst 0, 1))) ∧ ((decode cX12_read 48 = .ok (.istore_n 3, 1)) ∧ (decode cX12_read 49 = .ok (.iload_n 3, 1))))) ∧ ((((decode cX12_read 50 = .ok (.aload_n 0, 1)) ∧ (decode cX12_read 51 = .ok (.getfield 44, 3))) ∧ ((decode cX12_read 54 = .ok (.iload_n 1, 1)) ∧ (decode cX12_read 55 = .ok (.iaload, 1)))) ∧ (((decode cX12_read 56 = .ok (.if_icmp .ge 180, 3)) ∧ (decode cX12_read 59 = .ok (.aload_n 0, 1))) ∧ ((decode cX12_read 60 = .ok (.getfield 47, 3)) ∧ (decode cX12_read 63 = .ok (.bipush 6, 2))))) := by first | decide +kernel | ((repeat' apply And.intro) <;> decide +kernel)
theorem dX12_read_40 : decode cX12_read 40 = .ok (.putfield 240, 3) := dB_3_3_34.1.1.1.1
theorem dX12_read_43 : decode cX12_read 43 = .ok (.iconst 0, 1) := dB_3_3_34.1.1.1.2
theorem dX12_read_44 : decode cX12_read 44 = .ok (.ireturn, 1) := dB_3_3_34.1.1.2.1
theorem dX12_read_45 : decode cX12_read 45 = .ok (.iconst 0, 1) := dB_3_3_34.1.1.2.2
theorem dX12_read_46 : decode cX12_read 46 = .ok (.istore_n 2, 1) := dB_3_3_34.1.2.1.1
theorem dX12_read_47 : decode cX12_read 47 = .ok (.iconst 0, 1) := dB_3_3_34.1.2.1.2
theorem dX12_read_48 : decode cX12_read 48 = .ok (.istore_n 3, 1) := dB_3_3_34.1.2.2.1
theorem dX12_read_49 : decode cX12_read 49 = .ok (.iload_n 3, 1) := dB_3_3_34.1.2.2.2
theorem dX12_read_50 : decode cX12_read 50 = .ok (.aload_n 0, 1) := dB_3_3_34.2.1.1.1
theorem dX12_read_51 : decode cX12_read 51 = .ok (.getfield 44, 3) := dB_3_3_34.2.1.1.2
theorem dX12_read_54 : decode cX12_read 54 = .ok (.iload_n 1, 1) := dB_3_3_34.2.1.2.1
theorem dX12_read_55 : decode cX12_read 55 = .ok (.iaload, 1) := dB_3_3_34.2.1.2.2
theorem dX12_read_56 : decode cX12_read 56 = .ok (.if_icmp .ge 180, 3) := dB_3_3_34.2.2.1.1
theorem dX12_read_59 : decode cX12_read 59 = .ok (.aload_n 0, 1) := dB_3_3_34.2.2.1.2
theorem dX12_read_60 : decode cX12_read 60 = .ok (.getfield 47, 3) := dB_3_3_34.2.2.2.1
theorem dX12_read_63 : decode cX12_read 63 = .ok (.bipush 6, 2) := dB_3_3_34.2.2.2.2
theorem dB_3_3_35 : ((((decode cX12_read 65 = .ok (.iload_n 1, 1)) ∧ (decode cX12_read 66 = .ok (.imul, 1))) ∧ ((decode cX12_read 67 = .ok (.iload_n 3, 1)) ∧ (decode cX12_read 68 = .ok (.iadd, 1)))) ∧ (((decode cX12_read 69 = .ok (.iaload, 1)) ∧ (decode cX12_read 70 = .ok (.istore 4, 2))) ∧ ((decode cX12_read 72 = .ok (.bipush 30, 2)) ∧ (decode cX12_read 74 = .ok (.iload_n 1, 1))))) ∧ ((((decode cX12_read 75 = .ok (.imul, 1)) ∧ (decode cX12_read 76 = .ok (.iconst 5, 1))) ∧ ((decode cX12_read 77 = .ok (.iload_n 3, 1)) ∧ (decode cX12_read 78 = .ok (.imul, 1)))) ∧ (((decode cX12_read 79 = .ok (.iadd, 1)) ∧ (decode cX12_read 80 = .ok (.istore 5, 2))) ∧ ((decode cX12_read 82 = .ok (.iload 4, 2)) ∧ (decode cX12_read 84 = .ok (.bipush (-9), 2))))) := by first | decide +kernel | ((repeat' apply And.intro) <;> decide +kernel)
theorem dX12_read_65 : decode cX12_read 65 = .ok (.iload_n 1, 1) := dB_3_3_35.1.1.1.1
theorem dX12_read_66 : decode cX12_read 66 = .ok (.imul, 1) := dB_3_3_35.1.1.1.2
theorem dX12_read_67 : decode cX12_read 67 = .ok (.iload_n 3, 1) := dB_3_3_35.1.1.2.1
theorem dX12_read_68 : decode cX12_read 68 = .ok (.iadd, 1) := dB_3_3_35.1.1.2.2
theorem dX12_read_69 : decode cX12_read 69 = .ok (.iaload, 1) := dB_3_3_35.1.2.1.1
theorem dX12_read_70 : decode cX12_read 70 = .ok (.istore 4, 2) := dB_3_3_35.1.2.1.2
theorem dX12_read_72 : decode cX12_read 72 = .ok (.bipush 30, 2) := dB_3_3_35.1.2.2.1
theorem dX12_read_74 : decode cX12_read 74 = .ok (.iload_n 1, 1) := dB_3_3_35.1.2.2.2
theorem dX12_read_75 : decode cX12_read 75 = .ok (.imul, 1) := dB_3_3_35.2.1.1.1
theorem dX12_read_76 : decode cX12_read 76 = .ok (.iconst 5, 1) := dB_3_3_35.2.1.1.2
theorem dX12_read_77 : decode cX12_read 77 = .ok (.iload_n 3, 1) := dB_3_3_35.2.1.2.1
theorem dX12_read_78 : decode cX12_read 78 = .ok (.imul, 1) := dB_3_3_35.2.1.2.2
theorem dX12_read_79 : decode cX12_read 79 = .ok (.iadd, 1) := dB_3_3_35.2.2.1.1
theorem dX12_read_80 : decode cX12_read 80 = .ok (.istore 5, 2) := dB_3_3_35.2.2.1.2
theorem dX12_read_82 : decode cX12_read 82 = .ok (.iload 4, 2) := dB_3_3_35.2.2.2.1
theorem dX12_read_84 : decode cX12_read 84 = .ok (.bipush (-9), 2) := dB_3_3_35.2.2.2.2
theorem dB_3_3_36 : ((((decode cX12_read 86 = .ok (.if_icmp .ne 8, 3)) ∧ (decode cX12_read 89 = .ok (.bipush (-11), 2))) ∧ ((decode cX12_read 91 = .ok (.goto 61, 3)) ∧ (decode cX12_read 94 = .ok (.iload 4, 2)))) ∧ (((decode cX12_read 96 = .ok (.iconst 5, 1)) ∧ (decode cX12_read 97 = .ok (.if_icmp .ge 8, 3))) ∧ ((decode cX12_read 100 = .ok (.bipush (-12), 2)) ∧ (decode cX12_read 102 = .ok (.goto 50, 3))))) ∧ ((((decode cX12_read 105 = .ok (.aload_n 0, 1)) ∧ (decode cX12_read 106 = .ok (.aload_n 0, 1))) ∧ ((decode cX12_read 107 = .ok (.getfield 50, 3)) ∧ (decode cX12_read 110 = .ok (.iload 5, 2)))) ∧ (((decode cX12_read 112 = .ok (.laload, 1)) ∧ (decode cX12_read 113 = .ok (.aload_n 0, 1))) ∧ ((decode cX12_read 114 = .ok (.getfield 50, 3)) ∧ (decode cX12_read 117 = .ok (.iload 5, 2))))) := by first | decide +kernel | ((repeat' apply And.intro) <;> decide +kernel)
theorem dX12_read_86 : decode cX12_read 86 = .ok (.if_icmp .ne 8, 3) := dB_3_3_36.1.1.1.1
theorem dX12_read_89 : decode cX12_read 89 = .ok (.bipush (-11), 2) := dB_3_3_36.1.1.1.2
theorem dX12_read_91 : decode cX12_read 91 = .ok (.goto 61, 3) := dB_3_3_36.1.1.2.1
theorem dX12_read_94 : decode cX12_read 94 = .ok (.iload 4, 2) := dB_3_3_36.1.1.2.2
theorem dX12_read_96 : decode cX12_read 96 = .ok (.iconst 5, 1) := dB_3_3_36.1.2.1.1
theorem dX12_read_97 : decode cX12_read 97 = .ok (.if_icmp .ge 8, 3) := dB_3_3_36.1.2.1.2
theorem dX12_read_100 : decode cX12_read 100 = .ok (.bipush (-12), 2) := dB_3_3_36.1.2.2.1
theorem dX12_read_102 : decode cX12_read 102 = .ok (.goto 50, 3) := dB_3_3_36.1.2.2.2
theorem dX12_read_105 : decode cX12_read 105 = .ok (.aload_n 0, 1) := dB_3_3_36.2.1.1.1
theorem dX12_read_106 : decode cX12_read 106 = .ok (.aload_n 0, 1) := dB_3_3_36.2.1.1.2
theorem dX12_read_107 : decode cX12_read 107 = .ok (.getfield 50, 3) := dB_3_3_36.2.1.2.1
theorem dX12_read_110 : decode cX12_read 110 = .ok (.iload 5, 2) := dB_3_3_36.2.1.2.2
theorem dX12_read_112 : decode cX12_read 112 = .ok (.laload, 1) := dB_3_3_36.2.2.1.1
theorem dX12_read_113 : decode cX12_read 113 = .ok (.aload_n 0, 1) := dB_3_3_36.2.2.1.2
theorem dX12_read_114 : decode cX12_read 114 = .ok (.getfield 50, 3) := dB_3_3_36.2.2.2.1
theorem dX12_read_117 : decode cX12_read 117 = .ok (.iload 5, 2) := dB_3_3_36.2.2.2.2
theorem dB_3_3_37 : ((((decode cX12_read 119 = .ok (.iconst 1, 1)) ∧ (decode cX12_read 120 = .ok (.iadd, 1))) ∧ ((decode cX12_read 121 = .ok (.laload, 1)) ∧ (decode cX12_read 122 = .ok (.aload_n 0, 1)))) ∧ (((decode cX12_read 123 = .ok (.getfield 50, 3)) ∧ (decode cX12_read 126 = .ok (.iload 5, 2))) ∧ ((decode cX12_read 128 = .ok (.iconst 2, 1)) ∧ (decode cX12_read 129 = .ok (.iadd, 1))))) ∧ ((((decode cX12_read 130 = .ok (.laload, 1)) ∧ (decode cX12_read 131 = .ok (.aload_n 0, 1))) ∧ ((decode cX12_read 132 = .ok (.getfield 50, 3)) ∧ (decode cX12_read 135 = .ok (.iload 5, 2)))) ∧ (((decode cX12_read 137 = .ok (.iconst 3, 1)) ∧ (decode cX12_read 138 = .ok (.iadd, 1))) ∧ ((decode cX12_read 139 = .ok (.laload, 1)) ∧ (decode cX12_read 140 = .ok (.aload_n 0, 1))))) := by first | decide +kernel | ((repeat' apply And.intro) <;> decide +kernel)
theorem dX12_read_119 : decode cX12_read 119 = .ok (.iconst 1, 1) := dB_3_3_37.1.1.1.1
theorem dX12_read_120 : decode cX12_read 120 = .ok (.iadd, 1) := dB_3_3_37.1.1.1.2
theorem dX12_read_121 : decode cX12_read 121 = .ok (.laload, 1) := dB_3_3_37.1.1.2.1
theorem dX12_read_122 : decode cX12_read 122 = .ok (.aload_n 0, 1) := dB_3_3_37.1.1.2.2
theorem dX12_read_123 : decode cX12_read 123 = .ok (.getfield 50, 3) := dB_3_3_37.1.2.1.1
theorem dX12_read_126 : decode cX12_read 126 = .ok (.iload 5, 2) := dB_3_3_37.1.2.1.2
theorem dX12_read_128 : decode cX12_read 128 = .ok (.iconst 2, 1) := dB_3_3_37.1.2.2.1
theorem dX12_read_129 : decode cX12_read 129 = .ok (.iadd, 1) := dB_3_3_37.1.2.2.2
theorem dX12_read_130 : decode cX12_read 130 = .ok (.laload, 1) := dB_3_3_37.2.1.1.1
theorem dX12_read_131 : decode cX12_read 131 = .ok (.aload_n 0, 1) := dB_3_3_37.2.1.1.2
theorem dX12_read_132 : decode cX12_read 132 = .ok (.getfield 50, 3) := dB_3_3_37.2.1.2.1
theorem dX12_read_135 : decode cX12_read 135 = .ok (.iload 5, 2) := dB_3_3_37.2.1.2.2
theorem dX12_read_137 : decode cX12_read 137 = .ok (.iconst 3, 1) := dB_3_3_37.2.2.1.1
theorem dX12_read_138 : decode cX12_read 138 = .ok (.iadd, 1) := dB_3_3_37.2.2.1.2
theorem dX12_read_139 : decode cX12_read 139 = .ok (.laload, 1) := dB_3_3_37.2.2.2.1
theorem dX12_read_140 : decode cX12_read 140 = .ok (.aload_n 0, 1) := dB_3_3_37.2.2.2.2
theorem dB_3_3_38 : ((((decode cX12_read 141 = .ok (.getfield 50, 3)) ∧ (decode cX12_read 144 = .ok (.iload 5, 2))) ∧ ((decode cX12_read 146 = .ok (.iconst 4, 1)) ∧ (decode cX12_read 147 = .ok (.iadd, 1)))) ∧ (((decode cX12_read 148 = .ok (.laload, 1)) ∧ (decode cX12_read 149 = .ok (.invokevirtual 120, 3))) ∧ ((decode cX12_read 152 = .ok (.istore 6, 2)) ∧ (decode cX12_read 154 = .ok (.iload 6, 2))))) ∧ ((((decode cX12_read 156 = .ok (.ifCond .ge 11, 3)) ∧ (decode cX12_read 159 = .ok (.aload_n 0, 1))) ∧ ((decode cX12_read 160 = .ok (.iload 6, 2)) ∧ (decode cX12_read 162 = .ok (.putfield 240, 3)))) ∧ (((decode cX12_read 165 = .ok (.iload_n 2, 1)) ∧ (decode cX12_read 166 = .ok (.ireturn, 1))) ∧ ((decode cX12_read 167 = .ok (.iload_n 2, 1)) ∧ (decode cX12_read 168 = .ok (.ifCond .ne 7, 3))))) := by first | decide +kernel | ((repeat' apply And.intro) <;> decide +kernel)
theorem dX12_read_141 : decode cX12_read 141 = .ok (.getfield 50, 3) := dB_3_3_38.1.1.1.1
theorem dX12_read_144 : decode cX12_read 144 = .ok (.iload 5, 2) := dB_3_3_38.1.1.1.2
theorem dX12_read_146 : decode cX12_read 146 = .ok (.iconst 4, 1) := dB_3_3_38.1.1.2.1
theorem dX12_read_147 : decode cX12_read 147 = .ok (.iadd, 1) := dB_3_3_38.1.1.2.2
theorem dX12_read_148 : decode cX12_read 148 = .ok (.laload, 1) := dB_3_3_38.1.2.1.1
theorem dX12_read_149 : decode cX12_read 149 = .ok (.invokevirtual 120, 3) := dB_3_3_38.1.2.1.2
theorem dX12_read_152 : decode cX12_read 152 = .ok (.istore 6, 2) := dB_3_3_38.1.2.2.1
theorem dX12_read_154 : decode cX12_read 154 = .ok (.iload 6, 2) := dB_3_3_38.1.2.2.2
theorem dX12_read_156 : decode cX12_read 156 = .ok (.ifCond .ge 11, 3) := dB_3_3_38.2.1.1.1
theorem dX12_read_159 : decode cX12_read 159 = .ok (.aload_n 0, 1) := dB_3_3_38.2.1.1.2
theorem dX12_read_160 : decode cX12_read 160 = .ok (.iload 6, 2) := dB_3_3_38.2.1.2.1
theorem dX12_read_162 : decode cX12_read 162 = .ok (.putfield 240, 3) := dB_3_3_38.2.1.2.2
theorem dX12_read_165 : decode cX12_read 165 = .ok (.iload_n 2, 1) := dB_3_3_38.2.2.1.1
theorem dX12_read_166 : decode cX12_read 166 = .ok (.ireturn, 1) := dB_3_3_38.2.2.1.2
theorem dX12_read_167 : decode cX12_read 167 = .ok (.iload_n 2, 1) := dB_3_3_38.2.2.2.1
theorem dX12_read_168 : decode cX12_read 168 = .ok (.ifCond .ne 7, 3) := dB_3_3_38.2.2.2.2
theorem dB_3_3_39 : ((((decode cX12_read 171 = .ok (.aload_n 0, 1)) ∧ (decode cX12_read 172 = .ok (.invokevirtual 105, 3))) ∧ ((decode cX12_read 175 = .ok (.aload_n 0, 1)) ∧ (decode cX12_read 176 = .ok (.aload_n 0, 1)))) ∧ (((decode cX12_read 177 = .ok (.getfield 50, 3)) ∧ (decode cX12_read 180 = .ok (.iload 5, 2))) ∧ ((decode cX12_read 182 = .ok (.laload, 1)) ∧ (decode cX12_read 183 = .ok (.l2i, 1))))) ∧ ((((decode cX12_read 184 = .ok (.aload_n 0, 1)) ∧ (decode cX12_read 185 = .ok (.getfield 50, 3))) ∧ ((decode cX12_read 188 = .ok (.iload 5, 2)) ∧ (decode cX12_read 190 = .ok (.iconst 1, 1)))) ∧ (((decode cX12_read 191 = .ok (.iadd, 1)) ∧ (decode cX12_read 192 = .ok (.laload, 1))) ∧ ((decode cX12_read 193 = .ok (.l2i, 1)) ∧ (decode cX12_read 194 = .ok (.aload_n 0, 1))))) := by first | decide +kernel | ((repeat' apply And.intro) <;> decide +kernel)
theorem dX12_read_171 : decode cX12_read 171 = .ok (.aload_n 0, 1) := dB_3_3_39.1.1.1.1
theorem dX12_read_172 : decode cX12_read 172 = .ok (.invokevirtual 105, 3) := dB_3_3_39.1.1.1.2
theorem dX12_read_175 : decode cX12_read 175 = .ok (.aload_n 0, 1) := dB_3_3_39.1.1.2.1
theorem dX12_read_176 : decode cX12_read 176 = .ok (.aload_n 0, 1) := dB_3_3_39.1.1.2.2
theorem dX12_read_177 : decode cX12_read 177 = .ok (.getfield 50, 3) := dB_3_3_39.1.2.1.1
theorem dX12_read_180 : decode cX12_read 180 = .ok (.iload 5, 2) := dB_3_3_39.1.2.1.2
theorem dX12_read_182 : decode cX12_read 182 = .ok (.laload, 1) := dB_3_3_39.1.2.2.1
theorem dX12_read_183 : decode cX12_read 183 = .ok (.l2i, 1) := dB_3_3_39.1.2.2.2
theorem dX12_read_184 : decode cX12_read 184 = .ok (.aload_n 0, 1) := dB_3_3_39.2.1.1.1
theorem dX12_read_185 : decode cX12_read 185 = .ok (.getfield 50, 3) := dB_3_3_39.2.1.1.2
theorem dX12_read_188 : decode cX12_read 188 = .ok (.iload 5, 2) := dB_3_3_39.2.1.2.1
theorem dX12_read_190 : decode cX12_read 190 = .ok (.iconst 1, 1) := dB_3_3_39.2.1.2.2
theorem dX12_read_191 : decode cX12_read 191 = .ok (.iadd, 1) := dB_3_3_39.2.2.1.1
theorem dX12_read_192 : decode cX12_read 192 = .ok (.laload, 1) := dB_3_3_39.2.2.1.2
theorem dX12_read_193 : decode cX12_read 193 = .ok (.l2i, 1) := dB_3_3_39.2.2.2.1
theorem dX12_read_194 : decode cX12_read 194 = .ok (.aload_n 0, 1) := dB_3_3_39.2.2.2.2
theorem dB_3_3_40 : ((((decode cX12_read 195 = .ok (.getfield 50, 3)) ∧ (decode cX12_read 198 = .ok (.iload 5, 2))) ∧ ((decode cX12_read 200 = .ok (.iconst 2, 1)) ∧ (decode cX12_read 201 = .ok (.iadd, 1)))) ∧ (((decode cX12_read 202 = .ok (.laload, 1)) ∧ (decode cX12_read 203 = .ok (.l2i, 1))) ∧ ((decode cX12_read 204 = .ok (.aload_n 0, 1)) ∧ (decode cX12_read 205 = .ok (.getfield 50, 3))))) ∧ ((((decode cX12_read 208 = .ok (.iload 5, 2)) ∧ (decode cX12_read 210 = .ok (.iconst 3, 1))) ∧ ((decode cX12_read 211 = .ok (.iadd, 1)) ∧ (decode cX12_read 212 = .ok (.laload, 1)))) ∧ (((decode cX12_read 213 = .ok (.l2i, 1)) ∧ (decode cX12_read 214 = .ok (.aload_n 0, 1))) ∧ ((decode cX12_read 215 = .ok (.getfield 50, 3)) ∧ (decode cX12_read 218 = .ok (.iload 5, 2))))) := by first | decide +kernel | ((repeat' apply And.intro) <;> decide +kernel)
theorem dX12_read_195 : decode cX12_read 195 = .ok (.getfield 50, 3) := dB_3_3_40.1.1.1.1
theorem dX12_read_198 : decode cX12_read 198 = .ok (.iload 5, 2) := dB_3_3_40.1.1.1.2
theorem dX12_read_200 : decode cX12_read 200 = .ok (.iconst 2, 1) := dB_3_3_40.1.1.2.1
theorem dX12_read_201 : decode cX12_read 201 = .ok (.iadd, 1) := dB_3_3_40.1.1.2.2
theorem dX12_read_202 : decode cX12_read 202 = .ok (.laload, 1) := dB_3_3_40.1.2.1.1
theorem dX12_read_203 : decode cX12_read 203 = .ok (.l2i, 1) := dB_3_3_40.1.2.1.2
theorem dX12_read_204 : decode cX12_read 204 = .ok (.aload_n 0, 1) := dB_3_3_40.1.2.2.1
theorem dX12_read_205 : decode cX12_read 205 = .ok (.getfield 50, 3) := dB_3_3_40.1.2.2.2
theorem dX12_read_208 : decode cX12_read 208 = .ok (.iload 5, 2) := dB_3_3_40.2.1.1.1
theorem dX12_read_210 : decode cX12_read 210 = .ok (.iconst 3, 1) := dB_3_3_40.2.1.1.2
theorem dX12_read_211 : decode cX12_read 211 = .ok (.iadd, 1) := dB_3_3_40.2.1.2.1
theorem dX12_read_212 : decode cX12_read 212 = .ok (.laload, 1) := dB_3_3_40.2.1.2.2
theorem dX12_read_213 : decode cX12_read 213 = .ok (.l2i, 1) := dB_3_3_40.2.2.1.1
theorem dX12_read_214 : decode cX12_read 214 = .ok (.aload_n 0, 1) := dB_3_3_40.2.2.1.2
theorem dX12_read_215 : decode cX12_read 215 = .ok (.getfield 50, 3) := dB_3_3_40.2.2.2.1
theorem dX12_read_218 : decode cX12_read 218 = .ok (.iload 5, 2) := dB_3_3_40.2.2.2.2
theorem dB_3_3_41 : ((((decode cX12_read 220 = .ok (.iconst 4, 1)) ∧ (decode cX12_read 221 = .ok (.iadd, 1))) ∧ ((decode cX12_read 222 = .ok (.laload, 1)) ∧ (decode cX12_read 223 = .ok (.l2i, 1)))) ∧ (((decode cX12_read 224 = .ok (.invokevirtual 124, 3)) ∧ (decode cX12_read 227 = .ok (.iinc 2 1, 3))) ∧ ((decode cX12_read 230 = .ok (.iinc 3 1, 3)) ∧ (decode cX12_read 233 = .ok (.goto (-184), 3))))) ∧ ((((decode cX12_read 236 = .ok (.iload_n 2, 1)) ∧ (decode cX12_read 237 = .ok (.ireturn, 1))) ∧ ((decode cX12_about 0 = .ok (.aload_n 0, 1)) ∧ (decode cX12_about 1 = .ok (.iconst 0, 1)))) ∧ (((decode cX12_about 2 = .ok (.putfield 85, 3)) ∧ (decode cX12_about 5 = .ok (.iconst 0, 1))) ∧ ((decode cX12_about 6 = .ok (.istore_n 2, 1)) ∧ (decode cX12_about 7 = .ok (.iconst 0, 1))))) := by first | decide +kernel | ((repeat' apply And.intro) <;> decide +kernel)
theorem dX12_read_220 : decode cX12_read 220 = .ok (.iconst 4, 1) := dB_3_3_41.1.1.1.1
theorem dX12_read_221 : decode cX12_read 221 = .ok (.iadd, 1) := dB_3_3_41.1.1.1.2
theorem dX12_read_222 : decode cX12_read 222 = .ok (.laload, 1) := dB_3_3_41.1.1.2.1
theorem dX12_read_223 : decode cX12_read 223 = .ok (.l2i, 1) := dB_3_3_41.1.1.2.2
theorem dX12_read_224 : decode cX12_read 224 = .ok (.invokevirtual 124, 3) := dB_3_3_41.1.2.1.1
theorem dX12_read_227 : decode cX12_read 227 = .ok (.iinc 2 1, 3) := dB_3_3_41.1.2.1.2
theorem dX12_read_230 : decode cX12_read 230 = .ok (.iinc 3 1, 3) := dB_3_3_41.1.2.2.1
theorem dX12_read_233 : decode cX12_read 233 = .ok (.goto (-184), 3) := dB_3_3_41.1.2.2.2
theorem dX12_read_236 : decode cX12_read 236 = .ok (.iload_n 2, 1) := dB_3_3_41.2.1.1.1
theorem dX12_read_237 : decode cX12_read 237 = .ok (.ireturn, 1) := dB_3_3_41.2.1.1.2
theorem dX12_about_0 : decode cX12_about 0 = .ok (.aload_n 0, 1) := dB_3_3_41.2.1.2.1
theorem dX12_about_1 : decode cX12_about 1 = .ok (.iconst 0, 1) := dB_3_3_41.2.1.2.2
theorem dX12_about_2 : decode cX12_about 2 = .ok (.putfield 85, 3) := dB_3_3_41.2.2.1.1
theorem dX12_about_5 : decode cX12_about 5 = .ok (.iconst 0, 1) := dB_3_3_41.2.2.1.2
theorem dX12_about_6 : decode cX12_about 6 = .ok (.istore_n 2, 1) := dB_3_3_41.2.2.2.1
theorem dX12_about_7 : decode cX12_about 7 = .ok (.iconst 0, 1) := dB_3_3_41.2.2.2.2
theorem dB_3_3_42 : ((((decode cX12_about 8 = .ok (.istore_n 3, 1)) ∧ (decode cX12_about 9 = .ok (.iload_n 3, 1))) ∧ ((decode cX12_about 10 = .ok (.aload_n 0, 1)) ∧ (decode cX12_about 11 = .ok (.getfield 95, 3)))) ∧ (((decode cX12_about 14 = .ok (.if_icmp .ge 26, 3)) ∧ (decode cX12_about 17 = .ok (.iload_n 2, 1))) ∧ ((decode cX12_about 18 = .ok (.aload_n 0, 1)) ∧ (decode cX12_about 19 = .ok (.getfield 25, 3))))) ∧ ((((decode cX12_about 22 = .ok (.iload_n 3, 1)) ∧ (decode cX12_about 23 = .ok (.baload, 1))) ∧ ((decode cX12_about 24 = .ok (.ifCond .eq 7, 3)) ∧ (decode cX12_about 27 = .ok (.iconst 1, 1)))) ∧ (((decode cX12_about 28 = .ok (.goto 4, 3)) ∧ (decode cX12_about 31 = .ok (.iconst 0, 1))) ∧ ((decode cX12_about 32 = .ok (.iadd, 1)) ∧ (decode cX12_about 33 = .ok (.istore_n 2, 1))))) := by first | decide +kernel | ((repeat' apply And.intro) <;> decide +kernel)
theorem dX12_about_8 : decode cX12_about 8 = .ok (.istore_n 3, 1) := dB_3_3_42.1.1.1.1
theorem dX12_about_9 : decode cX12_about 9 = .ok (.iload_n 3, 1) := dB_3_3_42.1.1.1.2
theorem dX12_about_10 : decode cX12_about 10 = .ok (.aload_n 0, 1) := dB_3_3_42.1.1.2.1
theorem dX12_about_11 : decode cX12_about 11 = .ok (.getfield 95, 3) := dB_3_3_42.1.1.2.2
theorem dX12_about_14 : decode cX12_about 14 = .ok (.if_icmp .ge 26, 3) := dB_3_3_42.1.2.1.1
theorem dX12_about_17 : decode cX12_about 17 = .ok (.iload_n 2, 1) := dB_3_3_42.1.2.1.2
theorem dX12_about_18 : decode cX12_about 18 = .ok (.aload_n 0, 1) := dB_3_3_42.1.2.2.1
theorem dX12_about_19 : decode cX12_about 19 = .ok (.getfield 25, 3) := dB_3_3_42.1.2.2.2
theorem dX12_about_22 : decode cX12_about 22 = .ok (.iload_n 3, 1) := dB_3_3_42.2.1.1.1
theorem dX12_about_23 : decode cX12_about 23 = .ok (.baload, 1) := dB_3_3_42.2.1.1.2
theorem dX12_about_24 : decode cX12_about 24 = .ok (.ifCond .eq 7, 3) := dB_3_3_42.2.1.2.1
theorem dX12_about_27 : decode cX12_about 27 = .ok (.iconst 1, 1) := dB_3_3_42.2.1.2.2
theorem dX12_about_28 : decode cX12_about 28 = .ok (.goto 4, 3) := dB_3_3_42.2.2.1.1
theorem dX12_about_31 : decode cX12_about 31 = .ok (.iconst 0, 1) := dB_3_3_42.2.2.1.2
theorem dX12_about_32 : decode cX12_about 32 = .ok (.iadd, 1) := dB_3_3_42.2.2.2.1
theorem dX12_about_33 : decode cX12_about 33 = .ok (.istore_n 2, 1) := dB_3_3_42.2.2.2.2
theorem dB_3_3_43 : ((((decode cX12_about 34 = .ok (.iinc 3 1, 3)) ∧ (decode cX12_about 37 = .ok (.goto (-28), 3))) ∧ ((decode cX12_about 40 = .ok (.iload_n 1, 1)) ∧ (decode cX12_about 41 = .ok (.ifCond .ne 10, 3)))) ∧ (((decode cX12_about 44 = .ok (.aload_n 0, 1)) ∧ (decode cX12_about 45 = .ok (.getfield 88, 3))) ∧ ((decode cX12_about 48 = .ok (.goto 57, 3)) ∧ (decode cX12_about 51 = .ok (.iload_n 1, 1))))) ∧ ((((decode cX12_about 52 = .ok (.iconst 1, 1)) ∧ (decode cX12_about 53 = .ok (.if_icmp .ne 10, 3))) ∧ ((decode cX12_about 56 = .ok (.aload_n 0, 1)) ∧ (decode cX12_about 57 = .ok (.getfield 95, 3)))) ∧ (((decode cX12_about 60 = .ok (.goto 45, 3)) ∧ (decode cX12_about 63 = .ok (.iload_n 1, 1))) ∧ ((decode cX12_about 64 = .ok (.iconst 2, 1)) ∧ (decode cX12_about 65 = .ok (.if_icmp .ne 7, 3))))) := by first | decide +kernel | ((repeat' apply And.intro) <;> decide +kernel)
theorem dX12_about_34 : decode cX12_about 34 = .ok (.iinc 3 1, 3) := dB_3_3_43.1.1.1.1
theorem dX12_about_37 : decode cX12_about 37 = .ok (.goto (-28), 3) := dB_3_3_43.1.1.1.2
theorem dX12_about_40 : decode cX12_about 40 = .ok (.iload_n 1, 1) := dB_3_3_43.1.1.2.1
theorem dX12_about_41 : decode cX12_about 41 = .ok (.ifCond .ne 10, 3) := dB_3_3_43.1.1.2.2
theorem dX12_about_44 : decode cX12_about 44 = .ok (.aload_n 0, 1) := dB_3_3_43.1.2.1.1
theorem dX12_about_45 : decode cX12_about 45 = .ok (.getfield 88, 3) := dB_3_3_43.1.2.1.2
theorem dX12_about_48 : decode cX12_about 48 = .ok (.goto 57, 3) := dB_3_3_43.1.2.2.1
theorem dX12_about_51 : decode cX12_about 51 = .ok (.iload_n 1, 1) := dB_3_3_43.1.2.2.2
theorem dX12_about_52 : decode cX12_about 52 = .ok (.iconst 1, 1) := dB_3_3_43.2.1.1.1
theorem dX12_about_53 : decode cX12_about 53 = .ok (.if_icmp .ne 10, 3) := dB_3_3_43.2.1.1.2
theorem dX12_about_56 : decode cX12_about 56 = .ok (.aload_n 0, 1) := dB_3_3_43.2.1.2.1
theorem dX12_about_57 : decode cX12_about 57 = .ok (.getfield 95, 3) := dB_3_3_43.2.1.2.2
theorem dX12_about_60 : decode cX12_about 60 = .ok (.goto 45, 3) := dB_3_3_43.2.2.1.1
theorem dX12_about_63 : decode cX12_about 63 = .ok (.iload_n 1, 1) := dB_3_3_43.2.2.1.2
theorem dX12_about_64 : decode cX12_about 64 = .ok (.iconst 2, 1) := dB_3_3_43.2.2.2.1
theorem dX12_about_65 : decode cX12_about 65 = .ok (.if_icmp .ne 7, 3) := dB_3_3_43.2.2.2.2
theorem dB_3_3_44 : ((((decode cX12_about 68 = .ok (.iload_n 2, 1)) ∧ (decode cX12_about 69 = .ok (.goto 36, 3))) ∧ ((decode cX12_about 72 = .ok (.iload_n 1, 1)) ∧ (decode cX12_about 73 = .ok (.iconst 3, 1)))) ∧ (((decode cX12_about 74 = .ok (.if_icmp .ne 10, 3)) ∧ (decode cX12_about 77 = .ok (.aload_n 0, 1))) ∧ ((decode cX12_about 78 = .ok (.getfield 102, 3)) ∧ (decode cX12_about 81 = .ok (.goto 24, 3))))) ∧ ((((decode cX12_about 84 = .ok (.iload_n 1, 1)) ∧ (decode cX12_about 85 = .ok (.iconst 4, 1))) ∧ ((decode cX12_about 86 = .ok (.if_icmp .ne 18, 3)) ∧ (decode cX12_about 89 = .ok (.aload_n 0, 1)))) ∧ (((decode cX12_about 90 = .ok (.invokevirtual 225, 3)) ∧ (decode cX12_about 93 = .ok (.ifCond .eq 7, 3))) ∧ ((decode cX12_about 96 = .ok (.iconst 1, 1)) ∧ (decode cX12_about 97 = .ok (.goto 8, 3))))) := by first | decide +kernel | ((repeat' apply And.intro) <;> decide +kernel)
theorem dX12_about_68 : decode cX12_about 68 = .ok (.iload_n 2, 1) := dB_3_3_44.1.1.1.1
theorem dX12_about_69 : decode cX12_about 69 = .ok (.goto 36, 3) := dB_3_3_44.1.1.1.2
theorem dX12_about_72 : decode cX12_about 72 = .ok (.iload_n 1, 1) := dB_3_3_44.1.1.2.1
theorem dX12_about_73 : decode cX12_about 73 = .ok (.iconst 3, 1) := dB_3_3_44.1.1.2.2
theorem dX12_about_74 : decode cX12_about 74 = .ok (.if_icmp .ne 10, 3) := dB_3_3_44.1.2.1.1
theorem dX12_about_77 : decode cX12_about 77 = .ok (.aload_n 0, 1) := dB_3_3_44.1.2.1.2
theorem dX12_about_78 : decode cX12_about 78 = .ok (.getfield 102, 3) := dB_3_3_44.1.2.2.1
theorem dX12_about_81 : decode cX12_about 81 = .ok (.goto 24, 3) := dB_3_3_44.1.2.2.2
theorem dX12_about_84 : decode cX12_about 84 = .ok (.iload_n 1, 1) := dB_3_3_44.2.1.1.1
theorem dX12_about_85 : decode cX12_about 85 = .ok (.iconst 4, 1) := dB_3_3_44.2.1.1.2
theorem dX12_about_86 : decode cX12_about 86 = .ok (.if_icmp .ne 18, 3) := dB_3_3_44.2.1.2.1
theorem dX12_about_89 : decode cX12_about 89 = .ok (.aload_n 0, 1) := dB_3_3_44.2.1.2.2
theorem dX12_about_90 : decode cX12_about 90 = .ok (.invokevirtual 225, 3) := dB_3_3_44.2.2.1.1
theorem dX12_about_93 : decode cX12_about 93 = .ok (.ifCond .eq 7, 3) := dB_3_3_44.2.2.1.2
theorem dX12_about_96 : decode cX12_about 96 = .ok (.iconst 1, 1) := dB_3_3_44.2.2.2.1
theorem dX12_about_97 : decode cX12_about 97 = .ok (.goto 8, 3) := dB_3_3_44.2.2.2.2
theorem dB_3_3_45 : ((((decode cX12_about 100 = .ok (.iconst 0, 1)) ∧ (decode cX12_about 101 = .ok (.goto 4, 3))) ∧ ((decode cX12_about 104 = .ok (.iconst (-1), 1)) ∧ (decode cX12_about 105 = .ok (.ireturn, 1)))) ∧ (((decode cX12_trace 0 = .ok (.aload_n 0, 1)) ∧ (decode cX12_trace 1 = .ok (.iconst 0, 1))) ∧ ((decode cX12_trace 2 = .ok (.putfield 85, 3)) ∧ (decode cX12_trace 5 = .ok (.aload_n 0, 1))))) ∧ ((((decode cX12_trace 6 = .ok (.getfield 114, 3)) ∧ (decode cX12_trace 9 = .ok (.lreturn, 1))) ∧ ((decode cX12_status 0 = .ok (.aload_n 0, 1)) ∧ (decode cX12_status 1 = .ok (.iconst 0, 1)))) ∧ (((decode cX12_status 2 = .ok (.putfield 85, 3)) ∧ (decode cX12_status 5 = .ok (.aload_n 0, 1))) ∧ ((decode cX12_status 6 = .ok (.getfield 240, 3)) ∧ (decode cX12_status 9 = .ok (.ireturn, 1))))) := by first | decide +kernel | ((repeat' apply And.intro) <;> decide +kernel)
theorem dX12_about_100 : decode cX12_about 100 = .ok (.iconst 0, 1) := dB_3_3_45.1.1.1.1
theorem dX12_about_101 : decode cX12_about 101 = .ok (.goto 4, 3) := dB_3_3_45.1.1.1.2
theorem dX12_about_104 : decode cX12_about 104 = .ok (.iconst (-1), 1) := dB_3_3_45.1.1.2.1
theorem dX12_about_105 : decode cX12_about 105 = .ok (.ireturn, 1) := dB_3_3_45.1.1.2.2
theorem dX12_trace_0 : decode cX12_trace 0 = .ok (.aload_n 0, 1) := dB_3_3_45.1.2.1.1
theorem dX12_trace_1 : decode cX12_trace 1 = .ok (.iconst 0, 1) := dB_3_3_45.1.2.1.2
theorem dX12_trace_2 : decode cX12_trace 2 = .ok (.putfield 85, 3) := dB_3_3_45.1.2.2.1
theorem dX12_trace_5 : decode cX12_trace 5 = .ok (.aload_n 0, 1) := dB_3_3_45.1.2.2.2
theorem dX12_trace_6 : decode cX12_trace 6 = .ok (.getfield 114, 3) := dB_3_3_45.2.1.1.1
theorem dX12_trace_9 : decode cX12_trace 9 = .ok (.lreturn, 1) := dB_3_3_45.2.1.1.2
theorem dX12_status_0 : decode cX12_status 0 = .ok (.aload_n 0, 1) := dB_3_3_45.2.1.2.1
theorem dX12_status_1 : decode cX12_status 1 = .ok (.iconst 0, 1) := dB_3_3_45.2.1.2.2
theorem dX12_status_2 : decode cX12_status 2 = .ok (.putfield 85, 3) := dB_3_3_45.2.2.1.1
theorem dX12_status_5 : decode cX12_status 5 = .ok (.aload_n 0, 1) := dB_3_3_45.2.2.1.2
theorem dX12_status_6 : decode cX12_status 6 = .ok (.getfield 240, 3) := dB_3_3_45.2.2.2.1
theorem dX12_status_9 : decode cX12_status 9 = .ok (.ireturn, 1) := dB_3_3_45.2.2.2.2
end

section
/-! ===== what every contract here stands on: the array classes by number, the tables' words of the nest, and small rows ===== -/
noncomputable abbrev tt_ (cy : Nat → ClassId) : List (ClassId × FieldType) := [(cy 0, .int), (cy 1, .long), (cy 2, .boolean), (cy 3, .object RX6), (cy 4, .object RX4), (cy 5, .object RX3)]
noncomputable def nn_ (U : State) : Prop := va_Nw (.methodLinkNest RX11 9 yX6_init RX11) U ∧ va_Nw (.methodLinkNest RX11 12 yX5_init RX11) U ∧ va_Nw (.methodLinkNest RX11 15 yX9_init RX11) U ∧ va_Nw (.methodLinkNest RX11 18 yX2_init RX11) U ∧ va_Nw (.methodLinkNest RX11 21 yX8_init RX11) U ∧ va_Nw (.methodLinkNest RX11 30 yX3_init RX11) U ∧ va_Nw (.methodLinkNest RX11 71 yX4_init RX11) U
noncomputable def nk_ (U : State) : Prop := va_Nw (.methodLinkNest RX5 1 yX6_init RX11) U ∧ va_Nw (.methodLinkNest RX9 3 yX6_init RX11) U ∧ va_Nw (.methodLinkNest RX2 1 yX6_init RX11) U ∧ va_Nw (.methodLinkNest RX8 1 yX2_init RX11) U
noncomputable def na_ (U : State) : Prop := va_AO RX6 U ∧ va_AO RX4 U ∧ va_AO RX3 U ∧ va_AOA .int U
noncomputable def nc_ (U : State) : Prop := va_Nw (.castable RX5 RX6) U ∧ va_Nw (.castable RX9 RX6) U ∧ va_Nw (.castable RX2 RX6) U ∧ va_Nw (.castable RX8 RX6) U
noncomputable def kk_ (D : va_G) (cy : Nat → ClassId) (U : State) : Prop := va_K D vwCl (tt_ cy) U ∧ nn_ U ∧ nk_ U ∧ na_ U ∧ nc_ U
theorem kk_mv {D : va_G} {cy : Nat → ClassId} {s U : State} (hW : s.WarmedH U.vm) (h : kk_ D cy s) : kk_ D cy U := by
  obtain ⟨hK, ⟨a1, a2, a3, a4, a5, a6, a7⟩, ⟨b1, b2, b3, b4⟩, ⟨c1, c2, c3, c4⟩, ⟨d1, d2, d3, d4⟩⟩ := h
  exact ⟨va_K.moved hW.alike hK, ⟨va_Nw.warmM hW a1, va_Nw.warmM hW a2, va_Nw.warmM hW a3, va_Nw.warmM hW a4, va_Nw.warmM hW a5, va_Nw.warmM hW a6, va_Nw.warmM hW a7⟩, ⟨va_Nw.warmM hW b1, va_Nw.warmM hW b2, va_Nw.warmM hW b3, va_Nw.warmM hW b4⟩, ⟨c1.moved hW.alike, c2.moved hW.alike, c3.moved hW.alike, c4.moved hW.alike⟩, ⟨va_Nw.warmC hW d1, va_Nw.warmC hW d2, va_Nw.warmC hW d3, va_Nw.warmC hW d4⟩⟩
theorem kk_cl {D : va_G} {cy : Nat → ClassId} {s U : State} (hv : s.vm = U.vm) (h : kk_ D cy s) : kk_ D cy U := by
  obtain ⟨hK, ⟨a1, a2, a3, a4, a5, a6, a7⟩, ⟨b1, b2, b3, b4⟩, ⟨c1, c2, c3, c4⟩, ⟨d1, d2, d3, d4⟩⟩ := h
  have al : s.vm.Alike U.vm := by rw [hv]; exact Vm.Alike.refl U.vm
  exact ⟨va_K.moved al hK, ⟨va_Nw.same rfl hv a1, va_Nw.same rfl hv a2, va_Nw.same rfl hv a3, va_Nw.same rfl hv a4, va_Nw.same rfl hv a5, va_Nw.same rfl hv a6, va_Nw.same rfl hv a7⟩, ⟨va_Nw.same rfl hv b1, va_Nw.same rfl hv b2, va_Nw.same rfl hv b3, va_Nw.same rfl hv b4⟩, ⟨c1.moved al, c2.moved al, c3.moved al, c4.moved al⟩, ⟨va_Nw.same rfl hv d1, va_Nw.same rfl hv d2, va_Nw.same rfl hv d3, va_Nw.same rfl hv d4⟩⟩
theorem kk_nX11_9 {D : va_G} {cy : Nat → ClassId} {U : State} (h : kk_ D cy U) : va_Nw (.methodLinkNest RX11 9 yX6_init RX11) U := h.2.1.1
theorem kk_nX11_12 {D : va_G} {cy : Nat → ClassId} {U : State} (h : kk_ D cy U) : va_Nw (.methodLinkNest RX11 12 yX5_init RX11) U := h.2.1.2.1
theorem kk_nX11_15 {D : va_G} {cy : Nat → ClassId} {U : State} (h : kk_ D cy U) : va_Nw (.methodLinkNest RX11 15 yX9_init RX11) U := h.2.1.2.2.1
theorem kk_nX11_18 {D : va_G} {cy : Nat → ClassId} {U : State} (h : kk_ D cy U) : va_Nw (.methodLinkNest RX11 18 yX2_init RX11) U := h.2.1.2.2.2.1
theorem kk_nX11_21 {D : va_G} {cy : Nat → ClassId} {U : State} (h : kk_ D cy U) : va_Nw (.methodLinkNest RX11 21 yX8_init RX11) U := h.2.1.2.2.2.2.1
theorem kk_nX11_30 {D : va_G} {cy : Nat → ClassId} {U : State} (h : kk_ D cy U) : va_Nw (.methodLinkNest RX11 30 yX3_init RX11) U := h.2.1.2.2.2.2.2.1
theorem kk_nX11_71 {D : va_G} {cy : Nat → ClassId} {U : State} (h : kk_ D cy U) : va_Nw (.methodLinkNest RX11 71 yX4_init RX11) U := h.2.1.2.2.2.2.2.2
theorem kk_nX5_1 {D : va_G} {cy : Nat → ClassId} {U : State} (h : kk_ D cy U) : va_Nw (.methodLinkNest RX5 1 yX6_init RX11) U := h.2.2.1.1
theorem kk_nX9_3 {D : va_G} {cy : Nat → ClassId} {U : State} (h : kk_ D cy U) : va_Nw (.methodLinkNest RX9 3 yX6_init RX11) U := h.2.2.1.2.1
theorem kk_nX2_1 {D : va_G} {cy : Nat → ClassId} {U : State} (h : kk_ D cy U) : va_Nw (.methodLinkNest RX2 1 yX6_init RX11) U := h.2.2.1.2.2.1
theorem kk_nX8_1 {D : va_G} {cy : Nat → ClassId} {U : State} (h : kk_ D cy U) : va_Nw (.methodLinkNest RX8 1 yX2_init RX11) U := h.2.2.1.2.2.2
theorem kk_ao3 {D : va_G} {cy : Nat → ClassId} {U : State} (h : kk_ D cy U) : va_AO RX6 U := h.2.2.2.1.1
theorem kk_ao4 {D : va_G} {cy : Nat → ClassId} {U : State} (h : kk_ D cy U) : va_AO RX4 U := h.2.2.2.1.2.1
theorem kk_ao5 {D : va_G} {cy : Nat → ClassId} {U : State} (h : kk_ D cy U) : va_AO RX3 U := h.2.2.2.1.2.2.1
theorem kk_aoa {D : va_G} {cy : Nat → ClassId} {U : State} (h : kk_ D cy U) : va_AOA .int U := h.2.2.2.1.2.2.2
theorem any_of {D : va_G} {cy : Nat → ClassId} {s : State} {H : Heap} {ws : va_W} {C : String} {a q0 ci : Nat} {fs : List Value} {r : vw_C} (hc9 : va_Nw (.castable C RX6) s) (hK : kk_ D cy s) (hP : va_P D vwCl ws H) (he : ws[q0]? = some (a, .inr (ci, fs))) (hc : vwCl[ci]? = some r) (hr : r.1 = C) : va_Any RX6 s H a := by
  refine va_rAny hK.1 hP he hc (fun comp c0 h1 h2 => ?_)
  obtain ⟨c1, t1, f1, f2, f3⟩ := Cond.castable_spec (va_Nw.use (A := #[]) rfl hc9)
  rw [hr] at h2
  have e1 : c1 = c0 := Option.some.inj (f1.symm.trans h2)
  have e2 : t1 = comp := Option.some.inj (f2.symm.trans h1)
  rw [← e1, ← e2]
  exact f3
theorem kk_any5 {D : va_G} {cy : Nat → ClassId} {s : State} {H : Heap} {ws : va_W} {a : Nat} {fs : List Value} (hK : kk_ D cy s) (hP : va_P D vwCl ws H) (q0 : Nat) (he : ws[q0]? = some (a, .inr (5, fs))) : va_Any RX6 s H a := any_of hK.2.2.2.2.1 hK hP he rfl rfl
theorem kk_any9 {D : va_G} {cy : Nat → ClassId} {s : State} {H : Heap} {ws : va_W} {a : Nat} {fs : List Value} (hK : kk_ D cy s) (hP : va_P D vwCl ws H) (q0 : Nat) (he : ws[q0]? = some (a, .inr (9, fs))) : va_Any RX6 s H a := any_of hK.2.2.2.2.2.1 hK hP he rfl rfl
theorem kk_any2 {D : va_G} {cy : Nat → ClassId} {s : State} {H : Heap} {ws : va_W} {a : Nat} {fs : List Value} (hK : kk_ D cy s) (hP : va_P D vwCl ws H) (q0 : Nat) (he : ws[q0]? = some (a, .inr (2, fs))) : va_Any RX6 s H a := any_of hK.2.2.2.2.2.2.1 hK hP he rfl rfl
theorem kk_any8 {D : va_G} {cy : Nat → ClassId} {s : State} {H : Heap} {ws : va_W} {a : Nat} {fs : List Value} (hK : kk_ D cy s) (hP : va_P D vwCl ws H) (q0 : Nat) (he : ws[q0]? = some (a, .inr (8, fs))) : va_Any RX6 s H a := any_of hK.2.2.2.2.2.2.2 hK hP he rfl rfl
/-- a row of four cells -/
noncomputable def mf_ (a b c d : Nat) : Nat → Option Nat := fun i => if i = 0 then some a else if i = 1 then some b else if i = 2 then some c else if i = 3 then some d else none
/-- an int below a small bound is one of its values; what a switch asks -/
theorem sp_4 {x : Int32} (h : 0 ≤ x.toInt ∧ x.toInt < 4) : x = 0 ∨ x = 1 ∨ x = 2 ∨ x = 3 := by
  have h1 : x.toInt = 0 ∨ x.toInt = 1 ∨ x.toInt = 2 ∨ x.toInt = 3 := by omega
  rcases h1 with h | h | h | h
  · exact Or.inl (Int32.toInt_inj.mp h)
  · exact Or.inr (Or.inl (Int32.toInt_inj.mp h))
  · exact Or.inr (Or.inr (Or.inl (Int32.toInt_inj.mp h)))
  · exact Or.inr (Or.inr (Or.inr (Int32.toInt_inj.mp h)))
theorem sw_5 (x : Int32) : (x.toInt < 0 ∨ 4 < x.toInt) ∨ x.toInt = 0 ∨ x.toInt = 1 ∨ x.toInt = 2 ∨ x.toInt = 3 ∨ x.toInt = 4 := by omega
/-- a contract's start doesn't look at frames -/
theorem bl_ {av : List Value} {sz : Nat} {D : va_G} {cy : Nat → ClassId} {ws : va_W} {A : Nat → Prop} : FrameBlind (va_Pc av (fun U => U.heap.size = sz ∧ va_P D vwCl ws U.heap ∧ kk_ D cy U ∧ va_D A ws)) := fun a U g mk q => by
  obtain ⟨q0, q1, qP, qK, qD⟩ := q
  exact ⟨q0, q1, qP, kk_cl (s := U) (U := U.calling g mk a) rfl qK, qD⟩
theorem pp_nil {D : va_G} {cl : List vw_C} {H : Heap} : va_P D cl [] H := fun k q h => by simp at h
theorem dd_nil {A : Nat → Prop} : va_D A [] := ⟨fun i j p q h => by simp at h, fun k q h => by simp at h⟩
/-- behind a call that changes nothing old -/
theorem ro_keep {D : va_G} {cl : List vw_C} {ws : va_W} {H H1 : Heap} (hP : va_P D cl ws H) (hk : ∀ q : Nat, q < H.size → ¬ va_A [] H.size q → H1[q]? = H[q]?) : va_P D cl ws H1 := hP.kept (fun k q hq => by
  have hl := (hP k q hq).lt
  refine hk q.1 hl (fun h => ?_)
  rcases h with ⟨k2, e, h⟩ | h
  · simp at h
  · omega)
theorem cl_0 : (0 : Int32).toNatClampNeg = 0 := by decide
theorem cl_1 : (1 : Int32).toNatClampNeg = 1 := by decide
theorem cl_2 : (2 : Int32).toNatClampNeg = 2 := by decide
theorem cl_3 : (3 : Int32).toNatClampNeg = 3 := by decide
theorem cl_4 : (4 : Int32).toNatClampNeg = 4 := by decide
section MYW
variable {p : Program} {l : Launch} {e : Env} {R : Room} {s : State} {m : MethodId} {args : Array Value} {below : List Frame} {meth : Method} {c : Code} {H : Heap} {locs : List Loc} {cells slots : Nat} {Q : State → Prop}
variable {cc : ByteArray} {pc : Nat} {ls : Array Slot} {rest : List Value} {D : va_G} {cl : List vw_C} {A : Nat → Prop} {a : Nat} {tys : List (ClassId × FieldType)} {ws : va_W} {H0 : Heap}
theorem lv_topv {v v' : Value} (h : v = v') (k : W p l e R s m args below meth c H locs cells slots Q (F0 m pc ls (v' :: rest))) : W p l e R s m args below meth c H locs cells slots Q (F0 m pc ls (v :: rest)) := by
  subst h
  exact k
/-- a new array of a class that stands in the list of array classes -/
theorem nw_a (hexec : p.tables.exec = Jvm.exec) (hb : c.code = cc) {atype : ArrayType} {ty : FieldType} (harr : (Cond.arrayClass ty).before args s = true) (hty : newarray.typeOf atype = ty) (hK : va_K D cl tys s) (t0 : Nat) {c0 : ClassId} (ht0 : tys[t0]? = some (c0, ty)) (hob : ∀ C, ty ≠ .object C) (hP : va_P D cl ws H) (hD : va_D A ws) (hS : va_S A H0 H locs) (hA : ∀ q, H0.size ≤ q → A q)
    {n : Int32} {N' : Nat} {a0 : vp_A} (ha : ∀ cA : ClassId, vp_cell cA a0 = arrV cA N' (fun _ => defaultValue ty)) (hn : ¬ n < 0) (hN : n.toNatClampNeg = N') (hbytes : N' * componentBytes ty ≤ 536870912) (hcells : cells + 1 ≤ R.cells) (hslots : slots + N' ≤ R.slots) (hdg : decode cc pc = .ok (.newarray atype, 2))
    (kk : ∀ (q : Nat) (H1 : Heap), va_P D cl (ws ++ [(q, .inl (c0, a0))]) H1 → va_D A (ws ++ [(q, .inl (c0, a0))]) → va_S A H0 H1 locs →
      W p l e R s m args below meth c H1 locs (cells + 1) (slots + N') Q (F0 m (pc + 2) ls (.ref q :: rest))) : W p l e R s m args below meth c H locs cells slots Q (F0 m pc ls (.int n :: rest)) := by
  subst hty
  refine va_newa hexec hb harr rfl hK hP hD hS hA ha hn hN hbytes hcells hslots hdg (fun q cA H1 hK' hP' hD' hS' => ?_)
  have e1 : va_RA s cA (newarray.typeOf atype) := (hK'.2 tys.length (cA, newarray.typeOf atype) (by simp)).2
  have e0 : va_RA s c0 (newarray.typeOf atype) := (hK.2 t0 (c0, newarray.typeOf atype) ht0).2
  have e2 : cA = c0 := by
    cases atype <;> exact Option.some.inj (e1.symm.trans e0)
  subst e2
  exact kk q H1 hP' hD' hS'
theorem nw_q (hexec : p.tables.exec = Jvm.exec) (hb : c.code = cc) {own C : String} {index : Nat} (hown : s.vm.findClass own = some m.cls) (hclink : (Cond.classLink own index C).before args s = true) (hover : va_AO C s) (hK : va_K D cl tys s) (t0 : Nat) {c0 : ClassId} (ht0 : tys[t0]? = some (c0, .object C)) (hP : va_P D cl ws H) (hD : va_D A ws) (hS : va_S A H0 H locs) (hA : ∀ q, H0.size ≤ q → A q)
    {n : Int32} {N' : Nat} (hn : ¬ n < 0) (hN : n.toNatClampNeg = N') (hbytes : N' * 4 ≤ 536870912) (hcells : cells + 1 ≤ R.cells) (hslots : slots + N' ≤ R.slots) (hdg : decode cc pc = .ok (.anewarray index, 3))
    (kk : ∀ (q : Nat) (H1 : Heap), va_P D cl (ws ++ [(q, .inl (c0, N', .inr (.inr (.inr (.inr (fun _ => none))))))]) H1 → va_D A (ws ++ [(q, .inl (c0, N', .inr (.inr (.inr (.inr (fun _ => none))))))]) → va_S A H0 H1 locs →
      W p l e R s m args below meth c H1 locs (cells + 1) (slots + N') Q (F0 m (pc + 3) ls (.ref q :: rest))) : W p l e R s m args below meth c H locs cells slots Q (F0 m pc ls (.int n :: rest)) := by
  refine va_newq hexec hb hown hclink hover hK hP hD hS hA hn hN hbytes hcells hslots hdg (fun q cA H1 hK' hP' hD' hS' => ?_)
  obtain ⟨-, -, -, -, -, e1⟩ := (hK'.2 tys.length (cA, .object C) (by simp)).2
  obtain ⟨-, -, -, -, -, e0⟩ := (hK.2 t0 (c0, .object C) ht0).2
  have e2 : cA = c0 := Option.some.inj (e1.symm.trans e0)
  subst e2
  exact kk q H1 hP' hD' hS'
theorem pp_left {X Y : va_W} (h : va_P D cl (X ++ Y) H) : va_P D cl X H := fun k q hq => h k q (by
  have hl : k < X.length := (List.getElem?_eq_some_iff.mp hq).1
  rw [List.getElem?_append_left hl]
  exact hq)
theorem dd_left {X Y : va_W} (h : va_D A (X ++ Y)) : va_D A X := by
  have e : ∀ (k : Nat) (q : Nat × va_E), X[k]? = some q → (X ++ Y)[k]? = some q := fun k q hq => by
    have hl : k < X.length := (List.getElem?_eq_some_iff.mp hq).1
    rw [List.getElem?_append_left hl]
    exact hq
  exact ⟨fun i j p q hi hj => h.1 i j p q (e i p hi) (e j q hj), fun k q hk => h.2 k q (e k q hk)⟩
/-- new int[12][12]: nothing is told of its cells -/
theorem mn_a {cy : Nat → ClassId} (hexec : p.tables.exec = Jvm.exec) (hb : c.code = cc) {own : String} {index : Nat} (hown : s.vm.findClass own = some m.cls) (hclink : (Cond.classLink own index "[[I").before args s = true) (hK : kk_ D cy s) (harr : (Cond.arrayClass .int).before args s = true) (hP : va_P D vwCl ws H) (hD : va_D A ws) (hS : va_S A H0 H locs) (hA : ∀ q, H0.size ≤ q → A q)
    (hcells : cells + 13 ≤ R.cells) (hslots : slots + 156 ≤ R.slots) (hdg : decode cc pc = .ok (.multianewarray index 2, 4))
    (kk : ∀ (q : Nat) (H1 : Heap), va_P D vwCl ws H1 → va_D A ws → va_S A H0 H1 locs →
      W p l e R s m args below meth c H1 locs (cells + 1 + 12) (slots + 12 + 144) Q (F0 m (pc + 4) ls (.ref q :: rest))) : W p l e R s m args below meth c H locs cells slots Q (F0 m pc ls (.int 12 :: .int 12 :: rest)) := by
  have hcy : s.vm.findClass (FieldType.array .int).toString = some (cy 0) := (hK.1.2 0 (cy 0, .int) rfl).2
  refine va_mna (X := ws) (L := []) (f := fun _ => .inl (cy 0, (12, .inl (fun _ => 0)))) (ty := .int) (cy := cy 0) (N' := 12) (K' := 12) (z := (12, .inl (fun _ => 0))) hexec hb hown hclink (kk_aoa hK) harr hcy hK.1 (by simpa [va_pl] using hP) (by simpa [va_pl] using hD) hS hA (by decide) (by decide) (by decide) (by decide) (by decide) (by decide) (by decide) rfl rfl hcells hslots (fun c9 => ?_) hdg (fun q r cA H1 _ _ _ hP1 hD1 hS1 => ?_)
  · rw [vp_cell_i, ← arrV_new]
    rfl
  · exact kk q H1 (pp_left (pp_left hP1)) (dd_left (dd_left hD1)) hS1
end MYW
end

section
/-! ===== rows for contracts with ranges and loops ===== -/
/-- a contract's proof, its end named Q -/
theorem ofQ {l : Launch} {y : MethodName} {ws ws' : List Cond} {rm : Room} {Pc : Array Value → State → Prop} {Qc : Array Value → State → Outcome → State → Prop} {mc ms : Nat} {free : Addr → Prop} {cc : ByteArray} {maxL : Nat} {ret : Option FieldType}
    (hy : plainName y.cls = true) (hw : ws = Cond.code y cc maxL ret :: ws')
    (body : ∀ p e s m args below meth c s₁ (Q : State → Prop), Q = MQ below Qc args s mc ms free → BodyLoose p l y (headSpec ws rm) cc maxL ret e s m args below meth c s₁ → c.maxLocals = maxL → Pc args s →
      W p l e rm s m args below meth c s.heap [] 0 0 Q (entryFrame m args maxL)) : Met l y ws rm Pc Qc mc ms free :=
  Met.ofW hy hw (fun p e s m args below meth c s₁ B hml hv => body p e s m args below meth c s₁ _ rfl B hml hv)
/-- the first n numbers of a row lie between two bounds -/
noncomputable def rng (f : Nat → Int32) (n : Nat) (lo hi : Int) : Prop := ∀ j : Nat, j < n → lo ≤ (f j).toInt ∧ (f j).toInt ≤ hi
theorem rng_upd {f : Nat → Int32} {n : Nat} {lo hi : Int} {k : Nat} {x : Int32} (h : rng f n lo hi) (h1 : lo ≤ x.toInt) (h2 : x.toInt ≤ hi) : rng (upd f k x) n lo hi := fun j hj => by
  by_cases e : j = k
  · subst e
    rw [pk_us]
    exact ⟨h1, h2⟩
  · rw [pk_un e]
    exact h j hj
theorem rng_zero {n : Nat} {lo hi : Int} (h1 : lo ≤ 0) (h2 : 0 ≤ hi) : rng (fun _ => 0) n lo hi := fun j _ => by
  have z : (0 : Int32).toInt = 0 := by decide
  show lo ≤ (0 : Int32).toInt ∧ (0 : Int32).toInt ≤ hi
  exact ⟨by omega, by omega⟩
theorem in_lt {i : Int32} {n : Nat} (h : vp_in i n) : i.toNatClampNeg < n := Nat.not_le.mp fun q => h (Or.inr q)
theorem in_I {i : Int32} {n : Nat} (h1 : 0 ≤ i.toInt) (h2 : i.toInt < n) : vp_in i n := vp_in_iff.mpr ⟨h1, h2⟩
theorem addI {a b : Int32} (h1 : -2147483648 ≤ a.toInt + b.toInt) (h2 : a.toInt + b.toInt ≤ 2147483647) : (a + b).toInt = a.toInt + b.toInt := by
  rw [Int32.toInt_add]
  exact Int.bmod_eq_of_le (by omega) (by omega)
theorem subI {a b : Int32} (h1 : -2147483648 ≤ a.toInt - b.toInt) (h2 : a.toInt - b.toInt ≤ 2147483647) : (a - b).toInt = a.toInt - b.toInt := by
  rw [Int32.toInt_sub]
  exact Int.bmod_eq_of_le (by omega) (by omega)
theorem mulI {a b : Int32} (h1 : -2147483648 ≤ a.toInt * b.toInt) (h2 : a.toInt * b.toInt ≤ 2147483647) : (a * b).toInt = a.toInt * b.toInt := by
  rw [Int32.toInt_mul]
  exact Int.bmod_eq_of_le (by omega) (by omega)
theorem clI {i : Int32} (h : 0 ≤ i.toInt) : ((i.toNatClampNeg : Nat) : Int) = i.toInt := by
  show ((i.toInt.toNat : Nat) : Int) = i.toInt
  omega
theorem negI {a : Int32} (h : -2147483647 ≤ a.toInt) : (-a).toInt = -a.toInt := by
  rw [Int32.toInt_neg]
  have h2 := Int32.toInt_lt a
  exact Int.bmod_eq_of_le (by omega) (by omega)
/-- 1 << p for a place's number -/
theorem shl1 {x : Int32} (h0 : 0 ≤ x.toInt) (h1 : x.toInt ≤ 12) : 1 ≤ ((1 : Int32) <<< (x &&& 31)).toInt ∧ ((1 : Int32) <<< (x &&& 31)).toInt ≤ 4096 := by
  have h : x.toInt = 0 ∨ x.toInt = 1 ∨ x.toInt = 2 ∨ x.toInt = 3 ∨ x.toInt = 4 ∨ x.toInt = 5 ∨ x.toInt = 6 ∨ x.toInt = 7 ∨ x.toInt = 8 ∨ x.toInt = 9 ∨ x.toInt = 10 ∨ x.toInt = 11 ∨ x.toInt = 12 := by omega
  rcases h with h | h | h | h | h | h | h | h | h | h | h | h | h
  · obtain rfl : x = 0 := Int32.toInt_inj.mp h
    decide
  · obtain rfl : x = 1 := Int32.toInt_inj.mp h
    decide
  · obtain rfl : x = 2 := Int32.toInt_inj.mp h
    decide
  · obtain rfl : x = 3 := Int32.toInt_inj.mp h
    decide
  · obtain rfl : x = 4 := Int32.toInt_inj.mp h
    decide
  · obtain rfl : x = 5 := Int32.toInt_inj.mp h
    decide
  · obtain rfl : x = 6 := Int32.toInt_inj.mp h
    decide
  · obtain rfl : x = 7 := Int32.toInt_inj.mp h
    decide
  · obtain rfl : x = 8 := Int32.toInt_inj.mp h
    decide
  · obtain rfl : x = 9 := Int32.toInt_inj.mp h
    decide
  · obtain rfl : x = 10 := Int32.toInt_inj.mp h
    decide
  · obtain rfl : x = 11 := Int32.toInt_inj.mp h
    decide
  · obtain rfl : x = 12 := Int32.toInt_inj.mp h
    decide
theorem b01 {a : Int32} (h : a.toInt = 0 ∨ a.toInt = 1) : a = 0 ∨ a = 1 := by
  rcases h with h | h
  · exact Or.inl (Int32.toInt_inj.mp h)
  · exact Or.inr (Int32.toInt_inj.mp h)
theorem or01 {a b : Int32} (ha : a.toInt = 0 ∨ a.toInt = 1) (hb : b.toInt = 0 ∨ b.toInt = 1) : (a ||| b).toInt = 0 ∨ (a ||| b).toInt = 1 := by
  rcases b01 ha with rfl | rfl <;> rcases b01 hb with rfl | rfl <;> decide
theorem and01 {a b : Int32} (ha : a.toInt = 0 ∨ a.toInt = 1) (hb : b.toInt = 0 ∨ b.toInt = 1) : (a &&& b).toInt = 0 ∨ (a &&& b).toInt = 1 := by
  rcases b01 ha with rfl | rfl <;> rcases b01 hb with rfl | rfl <;> decide
theorem nar_b {v : Int32} (h : v.toInt = 0 ∨ v.toInt = 1) : narrow .boolean (.int v) = .int v := by
  rcases b01 h with rfl | rfl <;> decide
theorem mulC {a b : Int32} {k : Int} (h : a.toInt = k) (h1 : -2147483648 ≤ k * b.toInt) (h2 : k * b.toInt ≤ 2147483647) : (a * b).toInt = k * b.toInt := by
  rw [Int32.toInt_mul, h]
  exact Int.bmod_eq_of_le (by omega) (by omega)
theorem mulD {a b : Int32} {k : Int} (h : b.toInt = k) (h1 : -2147483648 ≤ k * a.toInt) (h2 : k * a.toInt ≤ 2147483647) : (a * b).toInt = k * a.toInt := by
  rw [Int32.toInt_mul, h, Int.mul_comm]
  exact Int.bmod_eq_of_le (by omega) (by omega)
/-- the row of kept nets: a line's numbers by their places mod 5 -/
noncomputable def oc (k : Nat) (x : Int) : Prop := ((k % 5 = 1 ∨ k % 5 = 2) → 0 ≤ x ∧ x ≤ 11) ∧ (k % 5 = 3 → 0 ≤ x ∧ x ≤ 2000) ∧ (k % 5 = 4 → (0 ≤ x ∧ x ≤ 100) ∨ (1000 ≤ x ∧ x ≤ 1100))
noncomputable def orng (f : Nat → Int32) (n : Nat) : Prop := ∀ j : Nat, j < n → oc j (f j).toInt
theorem orng_upd {f : Nat → Int32} {n k : Nat} {x : Int32} (h : orng f n) (hx : oc k x.toInt) : orng (upd f k x) n := fun j hj => by
  by_cases e : j = k
  · subst e
    rw [pk_us]
    exact hx
  · rw [pk_un e]
    exact h j hj
theorem orng_zero {n : Nat} : orng (fun _ => 0) n := fun j _ => by
  have z : (0 : Int32).toInt = 0 := by decide
  show oc j (0 : Int32).toInt
  unfold oc
  omega
/-- x % 1000 of a price that is kept -/
theorem rem1000 {x : Int32} (h : (0 ≤ x.toInt ∧ x.toInt ≤ 100) ∨ (1000 ≤ x.toInt ∧ x.toInt ≤ 1100)) : 0 ≤ (x - x / 1000 * 1000).toInt ∧ (x - x / 1000 * 1000).toInt ≤ 100 := by
  obtain ⟨j, hj, rfl⟩ := nI_of (x := x) (fun h => by
    have := Int32.lt_iff_toInt_lt.mp h
    have z : (0 : Int32).toInt = 0 := by decide
    omega)
  have e : (1000 : Int32) = nI 1000 := rfl
  rw [nI_toInt hj] at h
  rw [e, pk_rem hj (by decide) (by decide), nI_toInt (by omega)]
  omega
theorem addL {a b : Int64} (h1 : -9223372036854775808 ≤ a.toInt + b.toInt) (h2 : a.toInt + b.toInt ≤ 9223372036854775807) : (a + b).toInt = a.toInt + b.toInt := by
  rw [Int64.toInt_add]
  exact Int.bmod_eq_of_le (by omega) (by omega)
theorem va_recvX {s : State} {H : Heap} {D : va_G} {cl : List vw_C} {a q0 ci n : Nat} {C : String} {T : u_T} {fs : List Value} {ws : va_W} {tys : List (ClassId × FieldType)} (hK : va_K D cl tys s) (hP : va_P D cl ws H) (hc : cl[ci]? = some (C, T, n)) (he : ws[q0]? = some (a, .inr (ci, fs))) : ∃ cell : Cell, H[a]? = some cell ∧ cell.vm.isStatics = false ∧ s.vm.findClass C = some cell.cls := va_recv hK hP hc he
/-! ===== cells cut out, put in order, named: each list of cells written once ===== -/
theorem fm_map {f : Nat → Option (Nat × va_E)} : ∀ (is : List Nat) (wc : va_W), is.map f = wc.map some → is.filterMap f = wc := by
  intro is
  induction is with
  | nil =>
    intro wc h
    cases wc with
    | nil => rfl
    | cons c wc => exact absurd (congrArg List.length h) (by simp)
  | cons i is ih =>
    intro wc h
    cases wc with
    | nil => exact absurd (congrArg List.length h) (by simp)
    | cons c wc =>
      have h1 : f i :: is.map f = some c :: wc.map some := h
      injection h1 with h2 h3
      rw [List.filterMap_cons, h2]
      show c :: is.filterMap f = c :: wc
      rw [ih wc h3]
theorem pd_K {D : va_G} {cl : List vw_C} {H : Heap} {A : Nat → Prop} {G : Prop} (L : va_W) (hP : va_P D cl L H) (hD : va_D A L) (k : va_P D cl L H → va_D A L → G) : G := k hP hD
theorem pd_P {D : va_G} {cl : List vw_C} {H : Heap} {A : Nat → Prop} {G : Prop} {X pl : va_W} (hP : va_P D cl (X ++ pl) H) (hD : va_D A (X ++ pl)) (cx : va_W) (is : List Nat) (hn : va_nd is = true) (hs : is.map (fun i => X[i]?) = cx.map some) (k : va_P D cl (cx ++ pl) H → va_D A (cx ++ pl) → G) : G := k (hP.part is hs) (hD.part is hn hs)
theorem pd_S {D : va_G} {cl : List vw_C} {H : Heap} {A : Nat → Prop} {G : Prop} {ws : va_W} (hP : va_P D cl ws H) (hD : va_D A ws) (wc : va_W) (is : List Nat) (hn : va_nd is = true) (hs : is.map (fun i => ws[i]?) = wc.map some) (k : va_P D cl wc H → va_D A wc → G) : G := k (hP.sub is (fm_map is wc hs)) (hD.sub is hn hs)
theorem ct_P {D : va_G} {cl : List vw_C} {H H0 : Heap} {locs : List Loc} {A : Nat → Prop} {G : Prop} {X pl : va_W} (hP : va_P D cl (X ++ pl) H) (hD : va_D A (X ++ pl)) (hS : va_S A H0 H locs) (hA : ∀ q, H0.size ≤ q → A q) (cx : va_W) (is : List Nat) (hn : va_nd is = true) (hs : is.map (fun i => X[i]?) = cx.map some) (k : va_P D cl (cx ++ pl) H → va_D (fun _ => True) (cx ++ pl) → (∀ q, va_A (cx ++ pl) H.size q → A q) → is.map (fun i => X[i]?) = cx.map some → G) : G :=
  k (hP.part is hs) ((hD.part is hn hs).weaken (fun _ _ _ _ => trivial)) (va_freeP hD hS hA is hs) hs
theorem ct_S {D : va_G} {cl : List vw_C} {H H0 : Heap} {locs : List Loc} {A : Nat → Prop} {G : Prop} {ws : va_W} (hP : va_P D cl ws H) (hD : va_D A ws) (hS : va_S A H0 H locs) (hA : ∀ q, H0.size ≤ q → A q) (wc : va_W) (is : List Nat) (hn : va_nd is = true) (hs : is.map (fun i => ws[i]?) = wc.map some) (k : va_P D cl wc H → va_D (fun _ => True) wc → (∀ q, va_A wc H.size q → A q) → is.map (fun i => ws[i]?) = wc.map some → G) : G :=
  k (hP.sub is (fm_map is wc hs)) ((hD.sub is hn hs).weaken (fun _ _ _ _ => trivial)) (va_free hD hS hA is hs) hs
theorem ct_R {D : va_G} {cl : List vw_C} {H : Heap} {A : Nat → Prop} {G : Prop} {ws : va_W} (hP : va_P D cl ws H) (hD : va_D A ws) (wc : va_W) (is : List Nat) (hn : va_nd is = true) (hs : is.map (fun i => ws[i]?) = wc.map some) (k : va_P D cl wc H → va_D (fun _ => True) wc → G) : G :=
  k (hP.sub is (fm_map is wc hs)) ((hD.sub is hn hs).weaken (fun _ _ _ _ => trivial))
end

section
/-- what a LINE of kind k and width w lets, in the reference's numbers; b: from its first end -/
noncomputable def ml_lets (k w b : Int32) : Int32 := if k = 2 then (-5) else if k = 1 ∧ b = 0 then 0 else w
/-- the same with ENDLESS as 1000000; z: the line that is raised -/
noncomputable def ml_room (k w b l z : Int32) : Int32 := if ml_lets k w b = (-5) then 1000000 else if l = z ∧ ¬ (k = 1 ∧ b = 0) then ml_lets k w b + 1 else ml_lets k w b

set_option maxHeartbeats 4000000 in
set_option maxRecDepth 100000 in
theorem c_X12_in (l : Launch) (D : va_G) (cy : Nat → ClassId) (sz : Nat) (v : Int64) (lo : Int64) (hi : Int64) : Met l yX12_in wsX12_in ({ frames := 0, cells := 0, slots := 0, locals := 0 }) (va_Pc [.long v, .long lo, .long hi] (fun U => U.heap.size = sz ∧ va_P D vwCl [] U.heap ∧ kk_ D cy U ∧ va_D (fun _ => True) [])) (va_Qi (fun (r : Int32) (_ : Unit) => ((lo.toInt ≤ v.toInt ∧ v.toInt ≤ hi.toInt) ∧ r = 1) ∨ ((¬ (lo.toInt ≤ v.toInt ∧ v.toInt ≤ hi.toInt)) ∧ r = 0)) (fun (_ : Unit) (_ : State) => True) (va_A [] sz)) 0 0 (va_A [] sz) := by
  refine ofQ (cc := cX12_in) (maxL := 6) (ret := (some .boolean)) (by decide) rfl ?_
  intro p e s m args below meth c s₁ Q hQ B hml hv
  obtain ⟨rfl, hsz, hP, hK, hD0⟩ := hv
  have hx := B.exec
  have hb := B.bytes
  have hr := B.returns
  have hts := atoms_spec (ws := wsX12_in) B.pre
  have hown : s.vm.findClass RX12 = some m.cls := by have h_ := findClass_of_methodNamed B.named; exact h_
  have hlocks := B.notSynchronized
  subst hsz
  have hD : va_D (va_A [] s.heap.size) [] := dd_nil
  generalize hAe : va_A [] s.heap.size = A at hD hQ
  have hA : ∀ q : Nat, s.heap.size ≤ q → A q := fun q h => by rw [← hAe]; exact Or.inr h
  have hS : va_S A s.heap s.heap [] := va_S.rf
  have hl := lv_entry ([.long v, .long lo, .long hi]) (n := 6) (Nat.le_of_ble_eq_true rfl)
  rw [lg_entry_eq]
  generalize (lg_sl ([.long v, .long lo, .long hi]) ++ List.replicate (6 - (lg_sl ([.long v, .long lo, .long hi])).length) Slot.unset).toArray = ls at hl ⊢
  have hl : lv_has ls 6 [(0, .long v), (2, .long lo), (4, .long hi)] := hl
  have z0 : (0 : Int32).toInt = 0 := by decide
  have z1 : (1 : Int32).toInt = 1 := by decide
  refine lv_lload_n hx hb dX12_in_0 rfl (lv_at hl 0 rfl) ?_
  refine lv_lload_n hx hb dX12_in_1 rfl (lv_at hl 1 rfl) ?_
  refine W.lcmp hx hb dX12_in_2 ?_
  refine lv_if_lt (tgt := 17) hx hb dX12_in_3 (by decide) (fun c_1 => ?_) (fun c_1 => ?_)
  · have t_1 : v.toInt < lo.toInt := Int64.lt_iff_toInt_lt.mp ((lg_cmp_lt v lo).mp c_1)
    refine lv_iconst (v := 0) hx hb dX12_in_17 (by decide) ?_
    rw [hQ]
    exact W.zret (ty := .boolean) (v := 0) hx hb hr (by decide) (fun t ht hW => ⟨⟨0, (), rfl, Or.inr (⟨by omega, rfl⟩), trivial⟩, hS.F ht⟩) hS.2.2 dX12_in_18
  · have t_1 : ¬ v.toInt < lo.toInt := fun h => c_1 ((lg_cmp_lt v lo).mpr (Int64.lt_iff_toInt_lt.mpr h))
    refine lv_lload_n hx hb dX12_in_6 rfl (lv_at hl 0 rfl) ?_
    refine lv_lload hx hb dX12_in_7 (lv_at hl 2 rfl) ?_
    refine W.lcmp hx hb dX12_in_9 ?_
    refine lv_if_gt (tgt := 17) hx hb dX12_in_10 (by decide) (fun c_2 => ?_) (fun c_2 => ?_)
    · have t_2 : hi.toInt < v.toInt := Int64.lt_iff_toInt_lt.mp ((lg_cmp_gt v hi).mp c_2)
      refine lv_iconst (v := 0) hx hb dX12_in_17 (by decide) ?_
      rw [hQ]
      exact W.zret (ty := .boolean) (v := 0) hx hb hr (by decide) (fun t ht hW => ⟨⟨0, (), rfl, Or.inr (⟨by omega, rfl⟩), trivial⟩, hS.F ht⟩) hS.2.2 dX12_in_18
    · have t_2 : ¬ hi.toInt < v.toInt := fun h => c_2 ((lg_cmp_gt v hi).mpr (Int64.lt_iff_toInt_lt.mpr h))
      refine lv_iconst (v := 1) hx hb dX12_in_13 (by decide) ?_
      refine lv_goto (tgt := 18) hx hb dX12_in_14 (by decide) ?_
      rw [hQ]
      exact W.zret (ty := .boolean) (v := 1) hx hb hr (by decide) (fun t ht hW => ⟨⟨1, (), rfl, Or.inl (⟨by omega, rfl⟩), trivial⟩, hS.F ht⟩) hS.2.2 dX12_in_18

set_option maxHeartbeats 4000000 in
set_option maxRecDepth 100000 in
theorem c_X12_isPlace (l : Launch) (D : va_G) (cy : Nat → ClassId) (sz : Nat) (mo : Nat) (g5 : Nat) (g6 : Nat) (g7 : Nat) (g8 : Nat) (g9 : Nat) (g10 : Nat) (g12 : Nat) (g13 : Nat) (g14 : Nat) (g15 : Nat) (g16 : Nat) (g17 : Nat) (g18 : Nat) (g19 : Nat) (g20 : Nat) (g22 : Nat) (g23 : Nat) (g24 : Nat) (g29 : Nat) (g30 : Nat) (g31 : Nat) (g32 : Nat) (g33 : Nat) (s0 : Int32) (s1 : Int32) (s3 : Int32) (s4 : Int32) (s11 : Int32) (s21 : Int32) (s25 : Int32) (s26 : Int32) (s27 : Int32) (s28 : Int32) (t2 : Int64) (a1 : Int32) (hPl : 0 ≤ s3.toInt ∧ s3.toInt ≤ 12) : Met l yX12_isPlace wsX12_isPlace ({ frames := 1, cells := 0, slots := 0, locals := 25 }) (va_Pc [.ref mo, .int a1] (fun U => U.heap.size = sz ∧ va_P D vwCl [(mo, .inr (12, [.int s0, .int s1, .long t2, .int s3, .int s4, .ref g5, .ref g6, .ref g7, .ref g8, .ref g9, .ref g10, .int s11, .ref g12, .ref g13, .ref g14, .ref g15, .ref g16, .ref g17, .ref g18, .ref g19, .ref g20, .int s21, .ref g22, .ref g23, .ref g24, .int s25, .int s26, .int s27, .int s28, .ref g29, .ref g30, .ref g31, .ref g32, .ref g33]))] U.heap ∧ kk_ D cy U ∧ va_D (fun _ => True) [(mo, .inr (12, [.int s0, .int s1, .long t2, .int s3, .int s4, .ref g5, .ref g6, .ref g7, .ref g8, .ref g9, .ref g10, .int s11, .ref g12, .ref g13, .ref g14, .ref g15, .ref g16, .ref g17, .ref g18, .ref g19, .ref g20, .int s21, .ref g22, .ref g23, .ref g24, .int s25, .int s26, .int s27, .int s28, .ref g29, .ref g30, .ref g31, .ref g32, .ref g33]))])) (va_Qi (fun (r : Int32) (_ : Unit) => ((0 ≤ a1.toInt ∧ a1.toInt < s3.toInt) ∧ r = 1) ∨ ((¬ (0 ≤ a1.toInt ∧ a1.toInt < s3.toInt)) ∧ r = 0)) (fun (_ : Unit) (_ : State) => True) (va_A [] sz)) 0 0 (va_A [] sz) := by
  refine ofQ (cc := cX12_isPlace) (maxL := 2) (ret := (some .boolean)) (by decide) rfl ?_
  intro p e s m args below meth c s₁ Q hQ B hml hv
  obtain ⟨rfl, hsz, hP, hK, hD0⟩ := hv
  have hx := B.exec
  have hb := B.bytes
  have hr := B.returns
  have hts := atoms_spec (ws := wsX12_isPlace) B.pre
  have hown : s.vm.findClass RX12 = some m.cls := by have h_ := findClass_of_methodNamed B.named; exact h_
  have hlocks := B.notSynchronized
  subst hsz
  have hD : va_D (va_A [] s.heap.size) [] := dd_nil
  generalize hAe : va_A [] s.heap.size = A at hD hQ
  have hA : ∀ q : Nat, s.heap.size ≤ q → A q := fun q h => by rw [← hAe]; exact Or.inr h
  have hS : va_S A s.heap s.heap [] := va_S.rf
  have hl := lv_entry ([.ref mo, .int a1]) (n := 2) (Nat.le_of_ble_eq_true rfl)
  rw [lg_entry_eq]
  generalize (lg_sl ([.ref mo, .int a1]) ++ List.replicate (2 - (lg_sl ([.ref mo, .int a1])).length) Slot.unset).toArray = ls at hl ⊢
  have hl : lv_has ls 2 [(0, .ref mo), (1, .int a1)] := hl
  have z0 : (0 : Int32).toInt = 0 := by decide
  have zl0 : (0 : Int64).toInt = 0 := by decide
  have z1 : (1 : Int32).toInt = 1 := by decide
  refine lv_iload_n hx hb dX12_isPlace_0 rfl (lv_at hl 1 rfl) ?_
  refine lv_i2l (v := a1.toInt64) hx hb dX12_isPlace_1 rfl ?_
  have q_1 : (a1.toInt64).toInt = a1.toInt := Int32.toInt_toInt64 a1
  refine lv_lconst (v := 0) hx hb dX12_isPlace_2 (by decide) ?_
  refine lv_aload_n hx hb dX12_isPlace_3 rfl (lv_at hl 0 rfl) ?_
  refine va_get (ci := 12) (v := .int s3) (C := RX12) (T := TX12) (N := 34) hx hb hts (fun _ h => List.mem_cons_of_mem _ (List.mem_append_right _ h)) hown hK.1 hP 0 rfl rfl 3 (by decide) (hts (.fieldLink RX12 88 "CutAtlasModel" "places" "I") (by decide +kernel)) (fun _ h9 => h9) rfl dX12_isPlace_4 ?_
  refine lv_iconst (v := 1) hx hb dX12_isPlace_7 (by decide) ?_
  refine lv_isub hx hb dX12_isPlace_8 ?_
  refine lv_topi (fun y_1 ey_1 => ?_)
  have ty_1 : y_1.toInt = s3.toInt - (1 : Int32).toInt := by rw [ey_1]; exact subI (by omega) (by omega)
  refine lv_i2l (v := y_1.toInt64) hx hb dX12_isPlace_9 rfl ?_
  have q_9 : (y_1.toInt64).toInt = y_1.toInt := Int32.toInt_toInt64 y_1
  refine ct_R hP hD0 [] [] (by decide) rfl (fun hPc hDw => ?_)
  have hFc := va_free (wc := []) hD hS hA [] rfl
  refine va_calli (va_runS (As := [.long a1.toInt64, .long 0, .long y_1.toInt64]) (rest := []) ⟨hx, hb, hml, hown, hts⟩ (c_X12_in l D cy s.heap.size a1.toInt64 (0 : Int64) y_1.toInt64) (va_cwS 3 hts gX12_isPlace_X12_in rfl rfl rfl (by decide +kernel) ⟨Nat.le_of_ble_eq_true rfl, Nat.le_of_ble_eq_true rfl⟩) ⟨bl_, fun U hU hW => ⟨rfl, by rw [hU], by rw [hU]; exact hPc, kk_mv hW hK, hDw⟩⟩ rfl rfl hl.1 rfl (lv_room (Nat.le_of_ble_eq_true rfl)) dX12_isPlace_10 ⟨Nat.le_of_ble_eq_true rfl, Nat.le_of_ble_eq_true rfl⟩) hS (fun q _ h => hFc q h) hFc (fun r_2 u t H locs ht hvm hw hB hz1 hk1 hS => ?_)
  have hP : va_P D vwCl _ H := ro_keep hP hk1
  rcases hw with ⟨w_3, e_⟩ | ⟨w_3, e_⟩
  · have e_ := e_.symm
    subst e_
    rw [hQ]
    exact W.zret (ty := .boolean) (v := 1) hx hb hr (by decide) (fun t ht hW => ⟨⟨1, (), rfl, Or.inl (⟨by omega, rfl⟩), trivial⟩, hS.F ht⟩) hS.2.2 dX12_isPlace_13
  · have e_ := e_.symm
    subst e_
    rw [hQ]
    exact W.zret (ty := .boolean) (v := 0) hx hb hr (by decide) (fun t ht hW => ⟨⟨0, (), rfl, Or.inr (⟨by omega, rfl⟩), trivial⟩, hS.F ht⟩) hS.2.2 dX12_isPlace_13

set_option maxHeartbeats 4000000 in
set_option maxRecDepth 100000 in
theorem c_X12_isLine (l : Launch) (D : va_G) (cy : Nat → ClassId) (sz : Nat) (mo : Nat) (g5 : Nat) (g6 : Nat) (g7 : Nat) (g8 : Nat) (g9 : Nat) (g10 : Nat) (g12 : Nat) (g13 : Nat) (g14 : Nat) (g15 : Nat) (g16 : Nat) (g17 : Nat) (g18 : Nat) (g19 : Nat) (g20 : Nat) (g22 : Nat) (g23 : Nat) (g24 : Nat) (g29 : Nat) (g30 : Nat) (g31 : Nat) (g32 : Nat) (g33 : Nat) (s0 : Int32) (s1 : Int32) (s3 : Int32) (s4 : Int32) (s11 : Int32) (s21 : Int32) (s25 : Int32) (s26 : Int32) (s27 : Int32) (s28 : Int32) (t2 : Int64) (a1 : Int32) (hN : 0 ≤ s4.toInt ∧ s4.toInt ≤ 40) : Met l yX12_isLine wsX12_isLine ({ frames := 1, cells := 0, slots := 0, locals := 25 }) (va_Pc [.ref mo, .int a1] (fun U => U.heap.size = sz ∧ va_P D vwCl [(mo, .inr (12, [.int s0, .int s1, .long t2, .int s3, .int s4, .ref g5, .ref g6, .ref g7, .ref g8, .ref g9, .ref g10, .int s11, .ref g12, .ref g13, .ref g14, .ref g15, .ref g16, .ref g17, .ref g18, .ref g19, .ref g20, .int s21, .ref g22, .ref g23, .ref g24, .int s25, .int s26, .int s27, .int s28, .ref g29, .ref g30, .ref g31, .ref g32, .ref g33]))] U.heap ∧ kk_ D cy U ∧ va_D (fun _ => True) [(mo, .inr (12, [.int s0, .int s1, .long t2, .int s3, .int s4, .ref g5, .ref g6, .ref g7, .ref g8, .ref g9, .ref g10, .int s11, .ref g12, .ref g13, .ref g14, .ref g15, .ref g16, .ref g17, .ref g18, .ref g19, .ref g20, .int s21, .ref g22, .ref g23, .ref g24, .int s25, .int s26, .int s27, .int s28, .ref g29, .ref g30, .ref g31, .ref g32, .ref g33]))])) (va_Qi (fun (r : Int32) (_ : Unit) => ((0 ≤ a1.toInt ∧ a1.toInt < s4.toInt) ∧ r = 1) ∨ ((¬ (0 ≤ a1.toInt ∧ a1.toInt < s4.toInt)) ∧ r = 0)) (fun (_ : Unit) (_ : State) => True) (va_A [] sz)) 0 0 (va_A [] sz) := by
  refine ofQ (cc := cX12_isLine) (maxL := 2) (ret := (some .boolean)) (by decide) rfl ?_
  intro p e s m args below meth c s₁ Q hQ B hml hv
  obtain ⟨rfl, hsz, hP, hK, hD0⟩ := hv
  have hx := B.exec
  have hb := B.bytes
  have hr := B.returns
  have hts := atoms_spec (ws := wsX12_isLine) B.pre
  have hown : s.vm.findClass RX12 = some m.cls := by have h_ := findClass_of_methodNamed B.named; exact h_
  have hlocks := B.notSynchronized
  subst hsz
  have hD : va_D (va_A [] s.heap.size) [] := dd_nil
  generalize hAe : va_A [] s.heap.size = A at hD hQ
  have hA : ∀ q : Nat, s.heap.size ≤ q → A q := fun q h => by rw [← hAe]; exact Or.inr h
  have hS : va_S A s.heap s.heap [] := va_S.rf
  have hl := lv_entry ([.ref mo, .int a1]) (n := 2) (Nat.le_of_ble_eq_true rfl)
  rw [lg_entry_eq]
  generalize (lg_sl ([.ref mo, .int a1]) ++ List.replicate (2 - (lg_sl ([.ref mo, .int a1])).length) Slot.unset).toArray = ls at hl ⊢
  have hl : lv_has ls 2 [(0, .ref mo), (1, .int a1)] := hl
  have z0 : (0 : Int32).toInt = 0 := by decide
  have zl0 : (0 : Int64).toInt = 0 := by decide
  have z1 : (1 : Int32).toInt = 1 := by decide
  refine lv_iload_n hx hb dX12_isLine_0 rfl (lv_at hl 1 rfl) ?_
  refine lv_i2l (v := a1.toInt64) hx hb dX12_isLine_1 rfl ?_
  have q_1 : (a1.toInt64).toInt = a1.toInt := Int32.toInt_toInt64 a1
  refine lv_lconst (v := 0) hx hb dX12_isLine_2 (by decide) ?_
  refine lv_aload_n hx hb dX12_isLine_3 rfl (lv_at hl 0 rfl) ?_
  refine va_get (ci := 12) (v := .int s4) (C := RX12) (T := TX12) (N := 34) hx hb hts (fun _ h => List.mem_cons_of_mem _ (List.mem_append_right _ h)) hown hK.1 hP 0 rfl rfl 4 (by decide) (hts (.fieldLink RX12 95 "CutAtlasModel" "lines" "I") (by decide +kernel)) (fun _ h9 => h9) rfl dX12_isLine_4 ?_
  refine lv_iconst (v := 1) hx hb dX12_isLine_7 (by decide) ?_
  refine lv_isub hx hb dX12_isLine_8 ?_
  refine lv_topi (fun y_1 ey_1 => ?_)
  have ty_1 : y_1.toInt = s4.toInt - (1 : Int32).toInt := by rw [ey_1]; exact subI (by omega) (by omega)
  refine lv_i2l (v := y_1.toInt64) hx hb dX12_isLine_9 rfl ?_
  have q_9 : (y_1.toInt64).toInt = y_1.toInt := Int32.toInt_toInt64 y_1
  refine ct_R hP hD0 [] [] (by decide) rfl (fun hPc hDw => ?_)
  have hFc := va_free (wc := []) hD hS hA [] rfl
  refine va_calli (va_runS (As := [.long a1.toInt64, .long 0, .long y_1.toInt64]) (rest := []) ⟨hx, hb, hml, hown, hts⟩ (c_X12_in l D cy s.heap.size a1.toInt64 (0 : Int64) y_1.toInt64) (va_cwS 3 hts gX12_isLine_X12_in rfl rfl rfl (by decide +kernel) ⟨Nat.le_of_ble_eq_true rfl, Nat.le_of_ble_eq_true rfl⟩) ⟨bl_, fun U hU hW => ⟨rfl, by rw [hU], by rw [hU]; exact hPc, kk_mv hW hK, hDw⟩⟩ rfl rfl hl.1 rfl (lv_room (Nat.le_of_ble_eq_true rfl)) dX12_isLine_10 ⟨Nat.le_of_ble_eq_true rfl, Nat.le_of_ble_eq_true rfl⟩) hS (fun q _ h => hFc q h) hFc (fun r_2 u t H locs ht hvm hw hB hz1 hk1 hS => ?_)
  have hP : va_P D vwCl _ H := ro_keep hP hk1
  rcases hw with ⟨w_3, e_⟩ | ⟨w_3, e_⟩
  · have e_ := e_.symm
    subst e_
    rw [hQ]
    exact W.zret (ty := .boolean) (v := 1) hx hb hr (by decide) (fun t ht hW => ⟨⟨1, (), rfl, Or.inl (⟨by omega, rfl⟩), trivial⟩, hS.F ht⟩) hS.2.2 dX12_isLine_13
  · have e_ := e_.symm
    subst e_
    rw [hQ]
    exact W.zret (ty := .boolean) (v := 0) hx hb hr (by decide) (fun t ht hW => ⟨⟨0, (), rfl, Or.inr (⟨by omega, rfl⟩), trivial⟩, hS.F ht⟩) hS.2.2 dX12_isLine_13

set_option maxHeartbeats 4000000 in
set_option maxRecDepth 100000 in
theorem c_X12_arePlaces (l : Launch) (D : va_G) (cy : Nat → ClassId) (sz : Nat) (mo : Nat) (g5 : Nat) (g6 : Nat) (g7 : Nat) (g8 : Nat) (g9 : Nat) (g10 : Nat) (g12 : Nat) (g13 : Nat) (g14 : Nat) (g15 : Nat) (g16 : Nat) (g17 : Nat) (g18 : Nat) (g19 : Nat) (g20 : Nat) (g22 : Nat) (g23 : Nat) (g24 : Nat) (g29 : Nat) (g30 : Nat) (g31 : Nat) (g32 : Nat) (g33 : Nat) (s0 : Int32) (s1 : Int32) (s3 : Int32) (s4 : Int32) (s11 : Int32) (s21 : Int32) (s25 : Int32) (s26 : Int32) (s27 : Int32) (s28 : Int32) (t2 : Int64) (a1 : Int32) (a2 : Int32) (hPl : 0 ≤ s3.toInt ∧ s3.toInt ≤ 12) : Met l yX12_arePlaces wsX12_arePlaces ({ frames := 2, cells := 0, slots := 0, locals := 46 }) (va_Pc [.ref mo, .int a1, .int a2] (fun U => U.heap.size = sz ∧ va_P D vwCl [(mo, .inr (12, [.int s0, .int s1, .long t2, .int s3, .int s4, .ref g5, .ref g6, .ref g7, .ref g8, .ref g9, .ref g10, .int s11, .ref g12, .ref g13, .ref g14, .ref g15, .ref g16, .ref g17, .ref g18, .ref g19, .ref g20, .int s21, .ref g22, .ref g23, .ref g24, .int s25, .int s26, .int s27, .int s28, .ref g29, .ref g30, .ref g31, .ref g32, .ref g33]))] U.heap ∧ kk_ D cy U ∧ va_D (fun _ => True) [(mo, .inr (12, [.int s0, .int s1, .long t2, .int s3, .int s4, .ref g5, .ref g6, .ref g7, .ref g8, .ref g9, .ref g10, .int s11, .ref g12, .ref g13, .ref g14, .ref g15, .ref g16, .ref g17, .ref g18, .ref g19, .ref g20, .int s21, .ref g22, .ref g23, .ref g24, .int s25, .int s26, .int s27, .int s28, .ref g29, .ref g30, .ref g31, .ref g32, .ref g33]))])) (va_Qi (fun (r : Int32) (_ : Unit) => (((0 ≤ a1.toInt ∧ a1.toInt < s3.toInt) ∧ (0 ≤ a2.toInt ∧ a2.toInt < s3.toInt) ∧ a1.toInt ≠ a2.toInt) ∧ r = 1) ∨ ((¬ ((0 ≤ a1.toInt ∧ a1.toInt < s3.toInt) ∧ (0 ≤ a2.toInt ∧ a2.toInt < s3.toInt) ∧ a1.toInt ≠ a2.toInt)) ∧ r = 0)) (fun (_ : Unit) (_ : State) => True) (va_A [] sz)) 0 0 (va_A [] sz) := by
  refine ofQ (cc := cX12_arePlaces) (maxL := 3) (ret := (some .boolean)) (by decide) rfl ?_
  intro p e s m args below meth c s₁ Q hQ B hml hv
  obtain ⟨rfl, hsz, hP, hK, hD0⟩ := hv
  have hx := B.exec
  have hb := B.bytes
  have hr := B.returns
  have hts := atoms_spec (ws := wsX12_arePlaces) B.pre
  have hown : s.vm.findClass RX12 = some m.cls := by have h_ := findClass_of_methodNamed B.named; exact h_
  have hlocks := B.notSynchronized
  subst hsz
  have hD : va_D (va_A [] s.heap.size) [] := dd_nil
  generalize hAe : va_A [] s.heap.size = A at hD hQ
  have hA : ∀ q : Nat, s.heap.size ≤ q → A q := fun q h => by rw [← hAe]; exact Or.inr h
  have hS : va_S A s.heap s.heap [] := va_S.rf
  have hl := lv_entry ([.ref mo, .int a1, .int a2]) (n := 3) (Nat.le_of_ble_eq_true rfl)
  rw [lg_entry_eq]
  generalize (lg_sl ([.ref mo, .int a1, .int a2]) ++ List.replicate (3 - (lg_sl ([.ref mo, .int a1, .int a2])).length) Slot.unset).toArray = ls at hl ⊢
  have hl : lv_has ls 3 [(0, .ref mo), (1, .int a1), (2, .int a2)] := hl
  have z0 : (0 : Int32).toInt = 0 := by decide
  have z1 : (1 : Int32).toInt = 1 := by decide
  refine lv_aload_n hx hb dX12_arePlaces_0 rfl (lv_at hl 0 rfl) ?_
  refine lv_iload_n hx hb dX12_arePlaces_1 rfl (lv_at hl 1 rfl) ?_
  refine ct_R hP hD0 [(mo, .inr (12, [.int s0, .int s1, .long t2, .int s3, .int s4, .ref g5, .ref g6, .ref g7, .ref g8, .ref g9, .ref g10, .int s11, .ref g12, .ref g13, .ref g14, .ref g15, .ref g16, .ref g17, .ref g18, .ref g19, .ref g20, .int s21, .ref g22, .ref g23, .ref g24, .int s25, .int s26, .int s27, .int s28, .ref g29, .ref g30, .ref g31, .ref g32, .ref g33]))] [0] (by decide) rfl (fun hPc hDw => ?_)
  have hFc := va_free (wc := []) hD hS hA [] rfl
  refine va_calli (va_runV (As := [.int a1]) (rest := []) ⟨hx, hb, hml, hown, hts⟩ (c_X12_isPlace l D cy s.heap.size mo g5 g6 g7 g8 g9 g10 g12 g13 g14 g15 g16 g17 g18 g19 g20 g22 g23 g24 g29 g30 g31 g32 g33 s0 s1 s3 s4 s11 s21 s25 s26 s27 s28 t2 a1 (by first | with_reducible assumption | omega | assumption)) (cwV 1 hts gX12_arePlaces_X12_isPlace rfl rfl rfl (by decide +kernel) ⟨Nat.le_of_ble_eq_true rfl, Nat.le_of_ble_eq_true rfl⟩) ⟨bl_, va_recvX hK.1 hP (ci := 12) (q0 := 0) rfl rfl, fun U hU hW => ⟨rfl, by rw [hU], by rw [hU]; exact hPc, kk_mv hW hK, hDw⟩⟩ rfl rfl hl.1 rfl (lv_room (Nat.le_of_ble_eq_true rfl)) dX12_arePlaces_2 ⟨Nat.le_of_ble_eq_true rfl, Nat.le_of_ble_eq_true rfl⟩) hS (fun q _ h => hFc q h) hFc (fun r_1 u t H locs ht hvm hw hB hz1 hk1 hS => ?_)
  have hP : va_P D vwCl _ H := ro_keep hP hk1
  rcases hw with ⟨w_2, e_⟩ | ⟨w_2, e_⟩
  · have e_ := e_.symm
    subst e_
    refine lv_if_eq (tgt := 25) hx hb dX12_arePlaces_5 (by decide) (fun c_3 => ?_) (fun c_3 => ?_)
    · exact absurd c_3 (by decide)
    · have _ := c_3
      refine lv_aload_n hx hb dX12_arePlaces_8 rfl (lv_at hl 0 rfl) ?_
      refine lv_iload_n hx hb dX12_arePlaces_9 rfl (lv_at hl 2 rfl) ?_
      refine ct_R hP hD0 [(mo, .inr (12, [.int s0, .int s1, .long t2, .int s3, .int s4, .ref g5, .ref g6, .ref g7, .ref g8, .ref g9, .ref g10, .int s11, .ref g12, .ref g13, .ref g14, .ref g15, .ref g16, .ref g17, .ref g18, .ref g19, .ref g20, .int s21, .ref g22, .ref g23, .ref g24, .int s25, .int s26, .int s27, .int s28, .ref g29, .ref g30, .ref g31, .ref g32, .ref g33]))] [0] (by decide) rfl (fun hPc hDw => ?_)
      have hFc := va_free (wc := []) hD hS hA [] rfl
      refine va_calli (va_runV (As := [.int a2]) (rest := []) ⟨hx, hb, hml, hown, hts⟩ (c_X12_isPlace l D cy H.size mo g5 g6 g7 g8 g9 g10 g12 g13 g14 g15 g16 g17 g18 g19 g20 g22 g23 g24 g29 g30 g31 g32 g33 s0 s1 s3 s4 s11 s21 s25 s26 s27 s28 t2 a2 (by first | with_reducible assumption | omega | assumption)) (cwV 1 hts gX12_arePlaces_X12_isPlace rfl rfl rfl (by decide +kernel) ⟨Nat.le_of_ble_eq_true rfl, Nat.le_of_ble_eq_true rfl⟩) ⟨bl_, va_recvX hK.1 hP (ci := 12) (q0 := 0) rfl rfl, fun U hU hW => ⟨rfl, by rw [hU], by rw [hU]; exact hPc, kk_mv hW hK, hDw⟩⟩ rfl rfl hl.1 rfl (lv_room (Nat.le_of_ble_eq_true rfl)) dX12_arePlaces_10 ⟨Nat.le_of_ble_eq_true rfl, Nat.le_of_ble_eq_true rfl⟩) hS (fun q _ h => hFc q h) hFc (fun r_4 u t H locs ht hvm hw hB hz1 hk1 hS => ?_)
      have hP : va_P D vwCl _ H := ro_keep hP hk1
      rcases hw with ⟨w_5, e_⟩ | ⟨w_5, e_⟩
      · have e_ := e_.symm
        subst e_
        refine lv_if_eq (tgt := 25) hx hb dX12_arePlaces_13 (by decide) (fun c_6 => ?_) (fun c_6 => ?_)
        · exact absurd c_6 (by decide)
        · have _ := c_6
          refine lv_iload_n hx hb dX12_arePlaces_16 rfl (lv_at hl 1 rfl) ?_
          refine lv_iload_n hx hb dX12_arePlaces_17 rfl (lv_at hl 2 rfl) ?_
          refine lv_icmp_eq (tgt := 25) hx hb dX12_arePlaces_18 (by decide) (fun c_7 => ?_) (fun c_7 => ?_)
          · have t_7 : a1.toInt = a2.toInt := congrArg Int32.toInt c_7
            refine lv_iconst (v := 0) hx hb dX12_arePlaces_25 (by decide) ?_
            rw [hQ]
            exact W.zret (ty := .boolean) (v := 0) hx hb hr (by decide) (fun t ht hW => ⟨⟨0, (), rfl, Or.inr (⟨by omega, rfl⟩), trivial⟩, hS.F ht⟩) hS.2.2 dX12_arePlaces_26
          · have t_7 : ¬ a1.toInt = a2.toInt := fun h => c_7 (Int32.toInt_inj.mp h)
            refine lv_iconst (v := 1) hx hb dX12_arePlaces_21 (by decide) ?_
            refine lv_goto (tgt := 26) hx hb dX12_arePlaces_22 (by decide) ?_
            rw [hQ]
            exact W.zret (ty := .boolean) (v := 1) hx hb hr (by decide) (fun t ht hW => ⟨⟨1, (), rfl, Or.inl (⟨by omega, rfl⟩), trivial⟩, hS.F ht⟩) hS.2.2 dX12_arePlaces_26
      · have e_ := e_.symm
        subst e_
        refine lv_if_eq (tgt := 25) hx hb dX12_arePlaces_13 (by decide) (fun c_8 => ?_) (fun c_8 => ?_)
        · have _ := c_8
          refine lv_iconst (v := 0) hx hb dX12_arePlaces_25 (by decide) ?_
          rw [hQ]
          exact W.zret (ty := .boolean) (v := 0) hx hb hr (by decide) (fun t ht hW => ⟨⟨0, (), rfl, Or.inr (⟨by omega, rfl⟩), trivial⟩, hS.F ht⟩) hS.2.2 dX12_arePlaces_26
        · exact absurd c_8 (by decide)
  · have e_ := e_.symm
    subst e_
    refine lv_if_eq (tgt := 25) hx hb dX12_arePlaces_5 (by decide) (fun c_9 => ?_) (fun c_9 => ?_)
    · have _ := c_9
      refine lv_iconst (v := 0) hx hb dX12_arePlaces_25 (by decide) ?_
      rw [hQ]
      exact W.zret (ty := .boolean) (v := 0) hx hb hr (by decide) (fun t ht hW => ⟨⟨0, (), rfl, Or.inr (⟨by omega, rfl⟩), trivial⟩, hS.F ht⟩) hS.2.2 dX12_arePlaces_26
    · exact absurd c_9 (by decide)

set_option maxHeartbeats 4000000 in
set_option maxRecDepth 100000 in
theorem c_X12_lets (l : Launch) (D : va_G) (cy : Nat → ClassId) (sz : Nat) (mo : Nat) (g5 : Nat) (g6 : Nat) (g7 : Nat) (g8 : Nat) (g9 : Nat) (g10 : Nat) (g12 : Nat) (g13 : Nat) (g14 : Nat) (g15 : Nat) (g16 : Nat) (g17 : Nat) (g18 : Nat) (g19 : Nat) (g20 : Nat) (g22 : Nat) (g23 : Nat) (g24 : Nat) (g29 : Nat) (g30 : Nat) (g31 : Nat) (g32 : Nat) (g33 : Nat) (s0 : Int32) (s1 : Int32) (s3 : Int32) (s4 : Int32) (s11 : Int32) (s21 : Int32) (s25 : Int32) (s26 : Int32) (s27 : Int32) (s28 : Int32) (t2 : Int64) (f5 : Nat → Int32) (f8 : Nat → Int32) (a1 : Int32) (a2 : Int32) (q1 : 0 ≤ a1.toInt ∧ a1.toInt < 40) : Met l yX12_lets wsX12_lets ({ frames := 0, cells := 0, slots := 0, locals := 0 }) (va_Pc [.ref mo, .int a1, .int a2] (fun U => U.heap.size = sz ∧ va_P D vwCl [(mo, .inr (12, [.int s0, .int s1, .long t2, .int s3, .int s4, .ref g5, .ref g6, .ref g7, .ref g8, .ref g9, .ref g10, .int s11, .ref g12, .ref g13, .ref g14, .ref g15, .ref g16, .ref g17, .ref g18, .ref g19, .ref g20, .int s21, .ref g22, .ref g23, .ref g24, .int s25, .int s26, .int s27, .int s28, .ref g29, .ref g30, .ref g31, .ref g32, .ref g33])), (g5, .inl (cy 0, 40, .inl f5)), (g8, .inl (cy 0, 40, .inl f8))] U.heap ∧ kk_ D cy U ∧ va_D (fun _ => True) [(mo, .inr (12, [.int s0, .int s1, .long t2, .int s3, .int s4, .ref g5, .ref g6, .ref g7, .ref g8, .ref g9, .ref g10, .int s11, .ref g12, .ref g13, .ref g14, .ref g15, .ref g16, .ref g17, .ref g18, .ref g19, .ref g20, .int s21, .ref g22, .ref g23, .ref g24, .int s25, .int s26, .int s27, .int s28, .ref g29, .ref g30, .ref g31, .ref g32, .ref g33])), (g5, .inl (cy 0, 40, .inl f5)), (g8, .inl (cy 0, 40, .inl f8))])) (va_Qi (fun (r : Int32) (_ : Unit) => (r = ml_lets (f5 a1.toNatClampNeg) (f8 a1.toNatClampNeg) a2)) (fun (_ : Unit) (_ : State) => True) (va_A [] sz)) 0 0 (va_A [] sz) := by
  refine ofQ (cc := cX12_lets) (maxL := 3) (ret := (some .int)) (by decide) rfl ?_
  intro p e s m args below meth c s₁ Q hQ B hml hv
  obtain ⟨rfl, hsz, hP, hK, hD0⟩ := hv
  have hx := B.exec
  have hb := B.bytes
  have hr := B.returns
  have hts := atoms_spec (ws := wsX12_lets) B.pre
  have hown : s.vm.findClass RX12 = some m.cls := by have h_ := findClass_of_methodNamed B.named; exact h_
  have hlocks := B.notSynchronized
  subst hsz
  have hD : va_D (va_A [] s.heap.size) [] := dd_nil
  generalize hAe : va_A [] s.heap.size = A at hD hQ
  have hA : ∀ q : Nat, s.heap.size ≤ q → A q := fun q h => by rw [← hAe]; exact Or.inr h
  have hS : va_S A s.heap s.heap [] := va_S.rf
  have hl := lv_entry ([.ref mo, .int a1, .int a2]) (n := 3) (Nat.le_of_ble_eq_true rfl)
  rw [lg_entry_eq]
  generalize (lg_sl ([.ref mo, .int a1, .int a2]) ++ List.replicate (3 - (lg_sl ([.ref mo, .int a1, .int a2])).length) Slot.unset).toArray = ls at hl ⊢
  have hl : lv_has ls 3 [(0, .ref mo), (1, .int a1), (2, .int a2)] := hl
  have zm5 : ((-5) : Int32).toInt = -5 := by decide
  have z0 : (0 : Int32).toInt = 0 := by decide
  have z1 : (1 : Int32).toInt = 1 := by decide
  have z2 : (2 : Int32).toInt = 2 := by decide
  refine lv_aload_n hx hb dX12_lets_0 rfl (lv_at hl 0 rfl) ?_
  refine va_get (ci := 12) (v := .ref g5) (C := RX12) (T := TX12) (N := 34) hx hb hts (fun _ h => List.mem_cons_of_mem _ (List.mem_append_right _ h)) hown hK.1 hP 0 rfl rfl 5 (by decide) (hts (.fieldLink RX12 7 "CutAtlasModel" "kind" "[I") (by decide +kernel)) (fun _ h9 => h9) rfl dX12_lets_1 ?_
  refine lv_iload_n hx hb dX12_lets_4 rfl (lv_at hl 1 rfl) ?_
  have h_1 : vp_in a1 40 := in_I (by omega) (by omega)
  refine va_iald hx hb hK.1 hP 1 0 rfl rfl (i := a1) h_1 dX12_lets_5 ?_
  refine lv_topi (fun y_2 ey_2 => ?_)
  refine lv_iconst (v := 2) hx hb dX12_lets_6 (by decide) ?_
  refine lv_icmp_ne (tgt := 15) hx hb dX12_lets_7 (by decide) (fun c_3 => ?_) (fun c_3 => ?_)
  · have t_3 : ¬ y_2.toInt = (2 : Int32).toInt := fun h => c_3 (Int32.toInt_inj.mp h)
    refine lv_aload_n hx hb dX12_lets_15 rfl (lv_at hl 0 rfl) ?_
    refine va_get (ci := 12) (v := .ref g5) (C := RX12) (T := TX12) (N := 34) hx hb hts (fun _ h => List.mem_cons_of_mem _ (List.mem_append_right _ h)) hown hK.1 hP 0 rfl rfl 5 (by decide) (hts (.fieldLink RX12 7 "CutAtlasModel" "kind" "[I") (by decide +kernel)) (fun _ h9 => h9) rfl dX12_lets_16 ?_
    refine lv_iload_n hx hb dX12_lets_19 rfl (lv_at hl 1 rfl) ?_
    have h_4 : vp_in a1 40 := in_I (by omega) (by omega)
    refine va_iald hx hb hK.1 hP 1 0 rfl rfl (i := a1) h_4 dX12_lets_20 ?_
    refine lv_topi (fun y_5 ey_5 => ?_)
    have e_ := (ey_5.trans ey_2.symm).symm
    subst e_
    skip
    refine lv_iconst (v := 1) hx hb dX12_lets_21 (by decide) ?_
    refine lv_icmp_ne (tgt := 33) hx hb dX12_lets_22 (by decide) (fun c_6 => ?_) (fun c_6 => ?_)
    · have t_6 : ¬ y_2.toInt = (1 : Int32).toInt := fun h => c_6 (Int32.toInt_inj.mp h)
      refine lv_aload_n hx hb dX12_lets_33 rfl (lv_at hl 0 rfl) ?_
      refine va_get (ci := 12) (v := .ref g8) (C := RX12) (T := TX12) (N := 34) hx hb hts (fun _ h => List.mem_cons_of_mem _ (List.mem_append_right _ h)) hown hK.1 hP 0 rfl rfl 8 (by decide) (hts (.fieldLink RX12 19 "CutAtlasModel" "width" "[I") (by decide +kernel)) (fun _ h9 => h9) rfl dX12_lets_34 ?_
      refine lv_iload_n hx hb dX12_lets_37 rfl (lv_at hl 1 rfl) ?_
      have h_7 : vp_in a1 40 := in_I (by omega) (by omega)
      refine va_iald hx hb hK.1 hP 2 0 rfl rfl (i := a1) h_7 dX12_lets_38 ?_
      refine lv_topi (fun y_8 ey_8 => ?_)
      rw [hQ]
      exact W.iret (v := y_8) hx hb hr (fun t ht hW => ⟨⟨y_8, (), rfl, (by first | (simp only [ml_lets]; try simp only [← ey_2]; try simp only [← ey_8]; simp [c_3, c_6]; done) | (simp only [ml_lets]; try simp only [← ey_2]; try simp only [← ey_8]; done) | (exfalso; omega)), trivial⟩, hS.F ht⟩) hS.2.2 dX12_lets_39
    · have t_6 : y_2.toInt = (1 : Int32).toInt := congrArg Int32.toInt c_6
      refine lv_iload_n hx hb dX12_lets_25 rfl (lv_at hl 2 rfl) ?_
      refine lv_if_ne (tgt := 33) hx hb dX12_lets_26 (by decide) (fun c_9 => ?_) (fun c_9 => ?_)
      · have t_9 : ¬ a2.toInt = (0 : Int32).toInt := fun h => c_9 (Int32.toInt_inj.mp h)
        refine lv_aload_n hx hb dX12_lets_33 rfl (lv_at hl 0 rfl) ?_
        refine va_get (ci := 12) (v := .ref g8) (C := RX12) (T := TX12) (N := 34) hx hb hts (fun _ h => List.mem_cons_of_mem _ (List.mem_append_right _ h)) hown hK.1 hP 0 rfl rfl 8 (by decide) (hts (.fieldLink RX12 19 "CutAtlasModel" "width" "[I") (by decide +kernel)) (fun _ h9 => h9) rfl dX12_lets_34 ?_
        refine lv_iload_n hx hb dX12_lets_37 rfl (lv_at hl 1 rfl) ?_
        have h_10 : vp_in a1 40 := in_I (by omega) (by omega)
        refine va_iald hx hb hK.1 hP 2 0 rfl rfl (i := a1) h_10 dX12_lets_38 ?_
        refine lv_topi (fun y_11 ey_11 => ?_)
        rw [hQ]
        exact W.iret (v := y_11) hx hb hr (fun t ht hW => ⟨⟨y_11, (), rfl, (by first | (simp only [ml_lets]; try simp only [← ey_2]; try simp only [← ey_11]; simp [c_3, c_6, c_9]; done) | (simp only [ml_lets]; try simp only [← ey_2]; try simp only [← ey_11]; done) | (exfalso; omega)), trivial⟩, hS.F ht⟩) hS.2.2 dX12_lets_39
      · have t_9 : a2.toInt = (0 : Int32).toInt := congrArg Int32.toInt c_9
        refine lv_iconst (v := 0) hx hb dX12_lets_29 (by decide) ?_
        refine lv_goto (tgt := 39) hx hb dX12_lets_30 (by decide) ?_
        rw [hQ]
        exact W.iret (v := 0) hx hb hr (fun t ht hW => ⟨⟨0, (), rfl, (by first | (simp only [ml_lets]; try simp only [← ey_2]; simp [c_3, c_6, c_9]; done) | (simp only [ml_lets]; try simp only [← ey_2]; done) | (exfalso; omega)), trivial⟩, hS.F ht⟩) hS.2.2 dX12_lets_39
  · have t_3 : y_2.toInt = (2 : Int32).toInt := congrArg Int32.toInt c_3
    refine lv_bipush (v := (-5)) hx hb dX12_lets_10 (by decide) ?_
    refine lv_goto (tgt := 39) hx hb dX12_lets_12 (by decide) ?_
    rw [hQ]
    exact W.iret (v := (-5)) hx hb hr (fun t ht hW => ⟨⟨(-5), (), rfl, (by first | (simp only [ml_lets]; try simp only [← ey_2]; simp [c_3]; done) | (simp only [ml_lets]; try simp only [← ey_2]; done) | (exfalso; omega)), trivial⟩, hS.F ht⟩) hS.2.2 dX12_lets_39

set_option maxHeartbeats 4000000 in
set_option maxRecDepth 100000 in
theorem c_X12_room (l : Launch) (D : va_G) (cy : Nat → ClassId) (sz : Nat) (mo : Nat) (g5 : Nat) (g6 : Nat) (g7 : Nat) (g8 : Nat) (g9 : Nat) (g10 : Nat) (g12 : Nat) (g13 : Nat) (g14 : Nat) (g15 : Nat) (g16 : Nat) (g17 : Nat) (g18 : Nat) (g19 : Nat) (g20 : Nat) (g22 : Nat) (g23 : Nat) (g24 : Nat) (g29 : Nat) (g30 : Nat) (g31 : Nat) (g32 : Nat) (g33 : Nat) (s0 : Int32) (s1 : Int32) (s3 : Int32) (s4 : Int32) (s11 : Int32) (s21 : Int32) (s25 : Int32) (s26 : Int32) (s27 : Int32) (s28 : Int32) (t2 : Int64) (f5 : Nat → Int32) (f8 : Nat → Int32) (a1 : Int32) (a2 : Int32) (q1 : 0 ≤ a1.toInt ∧ a1.toInt < 40) : Met l yX12_room wsX12_room ({ frames := 1, cells := 0, slots := 0, locals := 22 }) (va_Pc [.ref mo, .int a1, .int a2] (fun U => U.heap.size = sz ∧ va_P D vwCl [(mo, .inr (12, [.int s0, .int s1, .long t2, .int s3, .int s4, .ref g5, .ref g6, .ref g7, .ref g8, .ref g9, .ref g10, .int s11, .ref g12, .ref g13, .ref g14, .ref g15, .ref g16, .ref g17, .ref g18, .ref g19, .ref g20, .int s21, .ref g22, .ref g23, .ref g24, .int s25, .int s26, .int s27, .int s28, .ref g29, .ref g30, .ref g31, .ref g32, .ref g33])), (g5, .inl (cy 0, 40, .inl f5)), (g8, .inl (cy 0, 40, .inl f8))] U.heap ∧ kk_ D cy U ∧ va_D (fun _ => True) [(mo, .inr (12, [.int s0, .int s1, .long t2, .int s3, .int s4, .ref g5, .ref g6, .ref g7, .ref g8, .ref g9, .ref g10, .int s11, .ref g12, .ref g13, .ref g14, .ref g15, .ref g16, .ref g17, .ref g18, .ref g19, .ref g20, .int s21, .ref g22, .ref g23, .ref g24, .int s25, .int s26, .int s27, .int s28, .ref g29, .ref g30, .ref g31, .ref g32, .ref g33])), (g5, .inl (cy 0, 40, .inl f5)), (g8, .inl (cy 0, 40, .inl f8))])) (va_Qi (fun (r : Int32) (_ : Unit) => (r = ml_room (f5 a1.toNatClampNeg) (f8 a1.toNatClampNeg) a2 a1 s21)) (fun (_ : Unit) (_ : State) => True) (va_A [] sz)) 0 0 (va_A [] sz) := by
  refine ofQ (cc := cX12_room) (maxL := 5) (ret := (some .int)) (by decide) rfl ?_
  intro p e s m args below meth c s₁ Q hQ B hml hv
  obtain ⟨rfl, hsz, hP, hK, hD0⟩ := hv
  have hx := B.exec
  have hb := B.bytes
  have hr := B.returns
  have hts := atoms_spec (ws := wsX12_room) B.pre
  have hown : s.vm.findClass RX12 = some m.cls := by have h_ := findClass_of_methodNamed B.named; exact h_
  have hlocks := B.notSynchronized
  subst hsz
  have hD : va_D (va_A [] s.heap.size) [] := dd_nil
  generalize hAe : va_A [] s.heap.size = A at hD hQ
  have hA : ∀ q : Nat, s.heap.size ≤ q → A q := fun q h => by rw [← hAe]; exact Or.inr h
  have hS : va_S A s.heap s.heap [] := va_S.rf
  have hl := lv_entry ([.ref mo, .int a1, .int a2]) (n := 5) (Nat.le_of_ble_eq_true rfl)
  rw [lg_entry_eq]
  generalize (lg_sl ([.ref mo, .int a1, .int a2]) ++ List.replicate (5 - (lg_sl ([.ref mo, .int a1, .int a2])).length) Slot.unset).toArray = ls at hl ⊢
  have hl : lv_has ls 5 [(0, .ref mo), (1, .int a1), (2, .int a2)] := hl
  have zm5 : ((-5) : Int32).toInt = -5 := by decide
  have z0 : (0 : Int32).toInt = 0 := by decide
  have z1 : (1 : Int32).toInt = 1 := by decide
  have z1000000 : (1000000 : Int32).toInt = 1000000 := by decide
  refine lv_aload_n hx hb dX12_room_0 rfl (lv_at hl 0 rfl) ?_
  refine lv_iload_n hx hb dX12_room_1 rfl (lv_at hl 1 rfl) ?_
  refine lv_iload_n hx hb dX12_room_2 rfl (lv_at hl 2 rfl) ?_
  refine ct_R hP hD0 [(mo, .inr (12, [.int s0, .int s1, .long t2, .int s3, .int s4, .ref g5, .ref g6, .ref g7, .ref g8, .ref g9, .ref g10, .int s11, .ref g12, .ref g13, .ref g14, .ref g15, .ref g16, .ref g17, .ref g18, .ref g19, .ref g20, .int s21, .ref g22, .ref g23, .ref g24, .int s25, .int s26, .int s27, .int s28, .ref g29, .ref g30, .ref g31, .ref g32, .ref g33])), (g5, .inl (cy 0, 40, .inl f5)), (g8, .inl (cy 0, 40, .inl f8))] [0, 1, 2] (by decide) rfl (fun hPc hDw => ?_)
  have hFc := va_free (wc := []) hD hS hA [] rfl
  refine va_calli (va_runV (As := [.int a1, .int a2]) (rest := []) ⟨hx, hb, hml, hown, hts⟩ (c_X12_lets l D cy s.heap.size mo g5 g6 g7 g8 g9 g10 g12 g13 g14 g15 g16 g17 g18 g19 g20 g22 g23 g24 g29 g30 g31 g32 g33 s0 s1 s3 s4 s11 s21 s25 s26 s27 s28 t2 f5 f8 a1 a2 (by first | with_reducible assumption | omega | assumption)) (cwV 2 hts gX12_room_X12_lets rfl rfl rfl (by decide +kernel) ⟨Nat.le_of_ble_eq_true rfl, Nat.le_of_ble_eq_true rfl⟩) ⟨bl_, va_recvX hK.1 hP (ci := 12) (q0 := 0) rfl rfl, fun U hU hW => ⟨rfl, by rw [hU], by rw [hU]; exact hPc, kk_mv hW hK, hDw⟩⟩ rfl rfl hl.1 rfl (lv_room (Nat.le_of_ble_eq_true rfl)) dX12_room_3 ⟨Nat.le_of_ble_eq_true rfl, Nat.le_of_ble_eq_true rfl⟩) hS (fun q _ h => hFc q h) hFc (fun r_1 u t H locs ht hvm hw hB hz1 hk1 hS => ?_)
  have hP : va_P D vwCl _ H := ro_keep hP hk1
  have f0_r_1 := hw
  refine lv_istore_n (lv' := [(3, .int r_1), (0, .ref mo), (1, .int a1), (2, .int a2)]) hx hb dX12_room_6 rfl hl (by decide) rfl (fun ls hl => ?_)
  refine lv_iload_n hx hb dX12_room_7 rfl (lv_at hl 2 rfl) ?_
  refine lv_aload_n hx hb dX12_room_8 rfl (lv_at hl 1 rfl) ?_
  refine va_get (ci := 12) (v := .int s21) (C := RX12) (T := TX12) (N := 34) hx hb hts (fun _ h => List.mem_cons_of_mem _ (List.mem_append_right _ h)) hown hK.1 hP 0 rfl rfl 21 (by decide) (hts (.fieldLink RX12 57 "CutAtlasModel" "raised" "I") (by decide +kernel)) (fun _ h9 => h9) rfl dX12_room_9 ?_
  refine lv_icmp_ne (tgt := 39) hx hb dX12_room_12 (by decide) (fun c_2 => ?_) (fun c_2 => ?_)
  · have t_2 : ¬ a1.toInt = s21.toInt := fun h => c_2 (Int32.toInt_inj.mp h)
    refine lv_iconst (v := 0) hx hb dX12_room_39 (by decide) ?_
    refine lv_istore (lv' := [(4, .int 0), (3, .int r_1), (0, .ref mo), (1, .int a1), (2, .int a2)]) hx hb dX12_room_40 hl (by decide) rfl (fun ls hl => ?_)
    refine lv_iload_n hx hb dX12_room_42 rfl (lv_at hl 1 rfl) ?_
    refine lv_bipush (v := (-5)) hx hb dX12_room_43 (by decide) ?_
    refine lv_icmp_ne (tgt := 53) hx hb dX12_room_45 (by decide) (fun c_3 => ?_) (fun c_3 => ?_)
    · have t_3 : ¬ r_1.toInt = ((-5) : Int32).toInt := fun h => c_3 (Int32.toInt_inj.mp h)
      refine lv_iload hx hb dX12_room_53 (lv_at hl 0 rfl) ?_
      refine lv_if_eq (tgt := 64) hx hb dX12_room_55 (by decide) (fun c_4 => ?_) (fun c_4 => ?_)
      · have _ := c_4
        refine lv_iload_n hx hb dX12_room_64 rfl (lv_at hl 1 rfl) ?_
        rw [hQ]
        exact W.iret (v := r_1) hx hb hr (fun t ht hW => ⟨⟨r_1, (), rfl, (by first | (simp only [ml_room]; try simp only [← f0_r_1]; simp [c_2, c_3]; done) | (simp only [ml_room]; try simp only [← f0_r_1]; done) | (exfalso; omega)), trivial⟩, hS.F ht⟩) hS.2.2 dX12_room_65
      · exact absurd c_4 (by decide)
    · have t_3 : r_1.toInt = ((-5) : Int32).toInt := congrArg Int32.toInt c_3
      refine lv_ldc (v := 1000000) hx hb hown (hts (.constant RX12 159 (1000000)) (by decide +kernel)) dX12_room_48 ?_
      refine lv_goto (tgt := 65) hx hb dX12_room_50 (by decide) ?_
      rw [hQ]
      exact W.iret (v := 1000000) hx hb hr (fun t ht hW => ⟨⟨1000000, (), rfl, (by first | (simp only [ml_room]; try simp only [← f0_r_1]; simp [c_2, c_3]; done) | (simp only [ml_room]; try simp only [← f0_r_1]; done) | (exfalso; omega)), trivial⟩, hS.F ht⟩) hS.2.2 dX12_room_65
  · have t_2 : a1.toInt = s21.toInt := congrArg Int32.toInt c_2
    refine lv_iload_n hx hb dX12_room_15 rfl (lv_at hl 0 rfl) ?_
    refine lv_bipush (v := (-5)) hx hb dX12_room_16 (by decide) ?_
    refine lv_icmp_eq (tgt := 39) hx hb dX12_room_18 (by decide) (fun c_5 => ?_) (fun c_5 => ?_)
    · have t_5 : r_1.toInt = ((-5) : Int32).toInt := congrArg Int32.toInt c_5
      refine lv_iconst (v := 0) hx hb dX12_room_39 (by decide) ?_
      refine lv_istore (lv' := [(4, .int 0), (3, .int r_1), (0, .ref mo), (1, .int a1), (2, .int a2)]) hx hb dX12_room_40 hl (by decide) rfl (fun ls hl => ?_)
      refine lv_iload_n hx hb dX12_room_42 rfl (lv_at hl 1 rfl) ?_
      refine lv_bipush (v := (-5)) hx hb dX12_room_43 (by decide) ?_
      refine lv_icmp_ne (tgt := 53) hx hb dX12_room_45 (by decide) (fun c_6 => ?_) (fun c_6 => ?_)
      · have t_6 : ¬ r_1.toInt = ((-5) : Int32).toInt := fun h => c_6 (Int32.toInt_inj.mp h)
        exfalso; omega
      · have t_6 : r_1.toInt = ((-5) : Int32).toInt := congrArg Int32.toInt c_6
        refine lv_ldc (v := 1000000) hx hb hown (hts (.constant RX12 159 (1000000)) (by decide +kernel)) dX12_room_48 ?_
        refine lv_goto (tgt := 65) hx hb dX12_room_50 (by decide) ?_
        rw [hQ]
        exact W.iret (v := 1000000) hx hb hr (fun t ht hW => ⟨⟨1000000, (), rfl, (by first | (simp only [ml_room]; try simp only [← f0_r_1]; simp [c_2, c_5, c_6]; done) | (simp only [ml_room]; try simp only [← f0_r_1]; done) | (exfalso; omega)), trivial⟩, hS.F ht⟩) hS.2.2 dX12_room_65
    · have t_5 : ¬ r_1.toInt = ((-5) : Int32).toInt := fun h => c_5 (Int32.toInt_inj.mp h)
      refine lv_aload_n hx hb dX12_room_21 rfl (lv_at hl 1 rfl) ?_
      refine va_get (ci := 12) (v := .ref g5) (C := RX12) (T := TX12) (N := 34) hx hb hts (fun _ h => List.mem_cons_of_mem _ (List.mem_append_right _ h)) hown hK.1 hP 0 rfl rfl 5 (by decide) (hts (.fieldLink RX12 7 "CutAtlasModel" "kind" "[I") (by decide +kernel)) (fun _ h9 => h9) rfl dX12_room_22 ?_
      refine lv_iload_n hx hb dX12_room_25 rfl (lv_at hl 2 rfl) ?_
      have h_7 : vp_in a1 40 := in_I (by omega) (by omega)
      refine va_iald hx hb hK.1 hP 1 0 rfl rfl (i := a1) h_7 dX12_room_26 ?_
      refine lv_topi (fun y_8 ey_8 => ?_)
      refine lv_iconst (v := 1) hx hb dX12_room_27 (by decide) ?_
      refine lv_icmp_ne (tgt := 35) hx hb dX12_room_28 (by decide) (fun c_9 => ?_) (fun c_9 => ?_)
      · have t_9 : ¬ y_8.toInt = (1 : Int32).toInt := fun h => c_9 (Int32.toInt_inj.mp h)
        refine lv_iconst (v := 1) hx hb dX12_room_35 (by decide) ?_
        refine lv_goto (tgt := 40) hx hb dX12_room_36 (by decide) ?_
        refine lv_istore (lv' := [(4, .int 1), (3, .int r_1), (0, .ref mo), (1, .int a1), (2, .int a2)]) hx hb dX12_room_40 hl (by decide) rfl (fun ls hl => ?_)
        refine lv_iload_n hx hb dX12_room_42 rfl (lv_at hl 1 rfl) ?_
        refine lv_bipush (v := (-5)) hx hb dX12_room_43 (by decide) ?_
        refine lv_icmp_ne (tgt := 53) hx hb dX12_room_45 (by decide) (fun c_10 => ?_) (fun c_10 => ?_)
        · have t_10 : ¬ r_1.toInt = ((-5) : Int32).toInt := fun h => c_10 (Int32.toInt_inj.mp h)
          refine lv_iload hx hb dX12_room_53 (lv_at hl 0 rfl) ?_
          refine lv_if_eq (tgt := 64) hx hb dX12_room_55 (by decide) (fun c_11 => ?_) (fun c_11 => ?_)
          · exact absurd c_11 (by decide)
          · have _ := c_11
            refine lv_iload_n hx hb dX12_room_58 rfl (lv_at hl 1 rfl) ?_
            refine lv_iconst (v := 1) hx hb dX12_room_59 (by decide) ?_
            refine lv_iadd hx hb dX12_room_60 ?_
            refine lv_topi (fun y_12 ey_12 => ?_)
            refine lv_goto (tgt := 65) hx hb dX12_room_61 (by decide) ?_
            rw [hQ]
            exact W.iret (v := y_12) hx hb hr (fun t ht hW => ⟨⟨y_12, (), rfl, (by first | (simp only [ml_room]; try simp only [← f0_r_1]; try simp only [← ey_8]; simp [c_2, c_5, c_9, c_10, ey_12]; done) | (simp only [ml_room]; try simp only [← f0_r_1]; try simp only [← ey_8]; done) | (exfalso; omega)), trivial⟩, hS.F ht⟩) hS.2.2 dX12_room_65
        · have t_10 : r_1.toInt = ((-5) : Int32).toInt := congrArg Int32.toInt c_10
          refine lv_ldc (v := 1000000) hx hb hown (hts (.constant RX12 159 (1000000)) (by decide +kernel)) dX12_room_48 ?_
          refine lv_goto (tgt := 65) hx hb dX12_room_50 (by decide) ?_
          rw [hQ]
          exact W.iret (v := 1000000) hx hb hr (fun t ht hW => ⟨⟨1000000, (), rfl, (by first | (simp only [ml_room]; try simp only [← f0_r_1]; try simp only [← ey_8]; simp [c_2, c_5, c_9, c_10]; done) | (simp only [ml_room]; try simp only [← f0_r_1]; try simp only [← ey_8]; done) | (exfalso; omega)), trivial⟩, hS.F ht⟩) hS.2.2 dX12_room_65
      · have t_9 : y_8.toInt = (1 : Int32).toInt := congrArg Int32.toInt c_9
        refine lv_iload_n hx hb dX12_room_31 rfl (lv_at hl 3 rfl) ?_
        refine lv_if_eq (tgt := 39) hx hb dX12_room_32 (by decide) (fun c_13 => ?_) (fun c_13 => ?_)
        · have t_13 : a2.toInt = (0 : Int32).toInt := congrArg Int32.toInt c_13
          refine lv_iconst (v := 0) hx hb dX12_room_39 (by decide) ?_
          refine lv_istore (lv' := [(4, .int 0), (3, .int r_1), (0, .ref mo), (1, .int a1), (2, .int a2)]) hx hb dX12_room_40 hl (by decide) rfl (fun ls hl => ?_)
          refine lv_iload_n hx hb dX12_room_42 rfl (lv_at hl 1 rfl) ?_
          refine lv_bipush (v := (-5)) hx hb dX12_room_43 (by decide) ?_
          refine lv_icmp_ne (tgt := 53) hx hb dX12_room_45 (by decide) (fun c_14 => ?_) (fun c_14 => ?_)
          · have t_14 : ¬ r_1.toInt = ((-5) : Int32).toInt := fun h => c_14 (Int32.toInt_inj.mp h)
            refine lv_iload hx hb dX12_room_53 (lv_at hl 0 rfl) ?_
            refine lv_if_eq (tgt := 64) hx hb dX12_room_55 (by decide) (fun c_15 => ?_) (fun c_15 => ?_)
            · have _ := c_15
              refine lv_iload_n hx hb dX12_room_64 rfl (lv_at hl 1 rfl) ?_
              rw [hQ]
              exact W.iret (v := r_1) hx hb hr (fun t ht hW => ⟨⟨r_1, (), rfl, (by first | (simp only [ml_room]; try simp only [← f0_r_1]; try simp only [← ey_8]; simp [c_2, c_5, c_9, c_13, c_14]; done) | (simp only [ml_room]; try simp only [← f0_r_1]; try simp only [← ey_8]; done) | (exfalso; omega)), trivial⟩, hS.F ht⟩) hS.2.2 dX12_room_65
            · exact absurd c_15 (by decide)
          · have t_14 : r_1.toInt = ((-5) : Int32).toInt := congrArg Int32.toInt c_14
            refine lv_ldc (v := 1000000) hx hb hown (hts (.constant RX12 159 (1000000)) (by decide +kernel)) dX12_room_48 ?_
            refine lv_goto (tgt := 65) hx hb dX12_room_50 (by decide) ?_
            rw [hQ]
            exact W.iret (v := 1000000) hx hb hr (fun t ht hW => ⟨⟨1000000, (), rfl, (by first | (simp only [ml_room]; try simp only [← f0_r_1]; try simp only [← ey_8]; simp [c_2, c_5, c_9, c_13, c_14]; done) | (simp only [ml_room]; try simp only [← f0_r_1]; try simp only [← ey_8]; done) | (exfalso; omega)), trivial⟩, hS.F ht⟩) hS.2.2 dX12_room_65
        · have t_13 : ¬ a2.toInt = (0 : Int32).toInt := fun h => c_13 (Int32.toInt_inj.mp h)
          refine lv_iconst (v := 1) hx hb dX12_room_35 (by decide) ?_
          refine lv_goto (tgt := 40) hx hb dX12_room_36 (by decide) ?_
          refine lv_istore (lv' := [(4, .int 1), (3, .int r_1), (0, .ref mo), (1, .int a1), (2, .int a2)]) hx hb dX12_room_40 hl (by decide) rfl (fun ls hl => ?_)
          refine lv_iload_n hx hb dX12_room_42 rfl (lv_at hl 1 rfl) ?_
          refine lv_bipush (v := (-5)) hx hb dX12_room_43 (by decide) ?_
          refine lv_icmp_ne (tgt := 53) hx hb dX12_room_45 (by decide) (fun c_16 => ?_) (fun c_16 => ?_)
          · have t_16 : ¬ r_1.toInt = ((-5) : Int32).toInt := fun h => c_16 (Int32.toInt_inj.mp h)
            refine lv_iload hx hb dX12_room_53 (lv_at hl 0 rfl) ?_
            refine lv_if_eq (tgt := 64) hx hb dX12_room_55 (by decide) (fun c_17 => ?_) (fun c_17 => ?_)
            · exact absurd c_17 (by decide)
            · have _ := c_17
              refine lv_iload_n hx hb dX12_room_58 rfl (lv_at hl 1 rfl) ?_
              refine lv_iconst (v := 1) hx hb dX12_room_59 (by decide) ?_
              refine lv_iadd hx hb dX12_room_60 ?_
              refine lv_topi (fun y_18 ey_18 => ?_)
              refine lv_goto (tgt := 65) hx hb dX12_room_61 (by decide) ?_
              rw [hQ]
              exact W.iret (v := y_18) hx hb hr (fun t ht hW => ⟨⟨y_18, (), rfl, (by first | (simp only [ml_room]; try simp only [← f0_r_1]; try simp only [← ey_8]; simp [c_2, c_5, c_9, c_13, c_16, ey_18]; done) | (simp only [ml_room]; try simp only [← f0_r_1]; try simp only [← ey_8]; done) | (exfalso; omega)), trivial⟩, hS.F ht⟩) hS.2.2 dX12_room_65
          · have t_16 : r_1.toInt = ((-5) : Int32).toInt := congrArg Int32.toInt c_16
            refine lv_ldc (v := 1000000) hx hb hown (hts (.constant RX12 159 (1000000)) (by decide +kernel)) dX12_room_48 ?_
            refine lv_goto (tgt := 65) hx hb dX12_room_50 (by decide) ?_
            rw [hQ]
            exact W.iret (v := 1000000) hx hb hr (fun t ht hW => ⟨⟨1000000, (), rfl, (by first | (simp only [ml_room]; try simp only [← f0_r_1]; try simp only [← ey_8]; simp [c_2, c_5, c_9, c_13, c_16]; done) | (simp only [ml_room]; try simp only [← f0_r_1]; try simp only [← ey_8]; done) | (exfalso; omega)), trivial⟩, hS.F ht⟩) hS.2.2 dX12_room_65

set_option maxHeartbeats 4000000 in
set_option maxRecDepth 100000 in
theorem c_X12_costs (l : Launch) (D : va_G) (cy : Nat → ClassId) (sz : Nat) (mo : Nat) (g5 : Nat) (g6 : Nat) (g7 : Nat) (g8 : Nat) (g9 : Nat) (g10 : Nat) (g12 : Nat) (g13 : Nat) (g14 : Nat) (g15 : Nat) (g16 : Nat) (g17 : Nat) (g18 : Nat) (g19 : Nat) (g20 : Nat) (g22 : Nat) (g23 : Nat) (g24 : Nat) (g29 : Nat) (g30 : Nat) (g31 : Nat) (g32 : Nat) (g33 : Nat) (s0 : Int32) (s1 : Int32) (s3 : Int32) (s4 : Int32) (s11 : Int32) (s21 : Int32) (s25 : Int32) (s26 : Int32) (s27 : Int32) (s28 : Int32) (t2 : Int64) (f5 : Nat → Int32) (f9 : Nat → Int32) (a1 : Int32) (q1 : 0 ≤ a1.toInt ∧ a1.toInt < 40) : Met l yX12_costs wsX12_costs ({ frames := 0, cells := 0, slots := 0, locals := 0 }) (va_Pc [.ref mo, .int a1] (fun U => U.heap.size = sz ∧ va_P D vwCl [(mo, .inr (12, [.int s0, .int s1, .long t2, .int s3, .int s4, .ref g5, .ref g6, .ref g7, .ref g8, .ref g9, .ref g10, .int s11, .ref g12, .ref g13, .ref g14, .ref g15, .ref g16, .ref g17, .ref g18, .ref g19, .ref g20, .int s21, .ref g22, .ref g23, .ref g24, .int s25, .int s26, .int s27, .int s28, .ref g29, .ref g30, .ref g31, .ref g32, .ref g33])), (g5, .inl (cy 0, 40, .inl f5)), (g9, .inl (cy 0, 40, .inl f9))] U.heap ∧ kk_ D cy U ∧ va_D (fun _ => True) [(mo, .inr (12, [.int s0, .int s1, .long t2, .int s3, .int s4, .ref g5, .ref g6, .ref g7, .ref g8, .ref g9, .ref g10, .int s11, .ref g12, .ref g13, .ref g14, .ref g15, .ref g16, .ref g17, .ref g18, .ref g19, .ref g20, .int s21, .ref g22, .ref g23, .ref g24, .int s25, .int s26, .int s27, .int s28, .ref g29, .ref g30, .ref g31, .ref g32, .ref g33])), (g5, .inl (cy 0, 40, .inl f5)), (g9, .inl (cy 0, 40, .inl f9))])) (va_Qi (fun (r : Int32) (_ : Unit) => True) (fun (_ : Unit) (_ : State) => True) (va_A [] sz)) 0 0 (va_A [] sz) := by
  refine ofQ (cc := cX12_costs) (maxL := 2) (ret := (some .int)) (by decide) rfl ?_
  intro p e s m args below meth c s₁ Q hQ B hml hv
  obtain ⟨rfl, hsz, hP, hK, hD0⟩ := hv
  have hx := B.exec
  have hb := B.bytes
  have hr := B.returns
  have hts := atoms_spec (ws := wsX12_costs) B.pre
  have hown : s.vm.findClass RX12 = some m.cls := by have h_ := findClass_of_methodNamed B.named; exact h_
  have hlocks := B.notSynchronized
  subst hsz
  have hD : va_D (va_A [] s.heap.size) [] := dd_nil
  generalize hAe : va_A [] s.heap.size = A at hD hQ
  have hA : ∀ q : Nat, s.heap.size ≤ q → A q := fun q h => by rw [← hAe]; exact Or.inr h
  have hS : va_S A s.heap s.heap [] := va_S.rf
  have hl := lv_entry ([.ref mo, .int a1]) (n := 2) (Nat.le_of_ble_eq_true rfl)
  rw [lg_entry_eq]
  generalize (lg_sl ([.ref mo, .int a1]) ++ List.replicate (2 - (lg_sl ([.ref mo, .int a1])).length) Slot.unset).toArray = ls at hl ⊢
  have hl : lv_has ls 2 [(0, .ref mo), (1, .int a1)] := hl
  have zm9 : ((-9) : Int32).toInt = -9 := by decide
  have z1 : (1 : Int32).toInt = 1 := by decide
  have z3 : (3 : Int32).toInt = 3 := by decide
  have z4 : (4 : Int32).toInt = 4 := by decide
  refine lv_aload_n hx hb dX12_costs_0 rfl (lv_at hl 0 rfl) ?_
  refine va_get (ci := 12) (v := .ref g5) (C := RX12) (T := TX12) (N := 34) hx hb hts (fun _ h => List.mem_cons_of_mem _ (List.mem_append_right _ h)) hown hK.1 hP 0 rfl rfl 5 (by decide) (hts (.fieldLink RX12 7 "CutAtlasModel" "kind" "[I") (by decide +kernel)) (fun _ h9 => h9) rfl dX12_costs_1 ?_
  refine lv_iload_n hx hb dX12_costs_4 rfl (lv_at hl 1 rfl) ?_
  have h_1 : vp_in a1 40 := in_I (by omega) (by omega)
  refine va_iald hx hb hK.1 hP 1 0 rfl rfl (i := a1) h_1 dX12_costs_5 ?_
  refine lv_topi (fun y_2 ey_2 => ?_)
  refine lv_iconst (v := 3) hx hb dX12_costs_6 (by decide) ?_
  refine lv_icmp_ne (tgt := 19) hx hb dX12_costs_7 (by decide) (fun c_3 => ?_) (fun c_3 => ?_)
  · have t_3 : ¬ y_2.toInt = (3 : Int32).toInt := fun h => c_3 (Int32.toInt_inj.mp h)
    refine lv_aload_n hx hb dX12_costs_19 rfl (lv_at hl 0 rfl) ?_
    refine va_get (ci := 12) (v := .ref g5) (C := RX12) (T := TX12) (N := 34) hx hb hts (fun _ h => List.mem_cons_of_mem _ (List.mem_append_right _ h)) hown hK.1 hP 0 rfl rfl 5 (by decide) (hts (.fieldLink RX12 7 "CutAtlasModel" "kind" "[I") (by decide +kernel)) (fun _ h9 => h9) rfl dX12_costs_20 ?_
    refine lv_iload_n hx hb dX12_costs_23 rfl (lv_at hl 1 rfl) ?_
    have h_4 : vp_in a1 40 := in_I (by omega) (by omega)
    refine va_iald hx hb hK.1 hP 1 0 rfl rfl (i := a1) h_4 dX12_costs_24 ?_
    refine lv_topi (fun y_5 ey_5 => ?_)
    have e_ := (ey_5.trans ey_2.symm).symm
    subst e_
    skip
    refine lv_iconst (v := 4) hx hb dX12_costs_25 (by decide) ?_
    refine lv_icmp_ne (tgt := 40) hx hb dX12_costs_26 (by decide) (fun c_6 => ?_) (fun c_6 => ?_)
    · have t_6 : ¬ y_2.toInt = (4 : Int32).toInt := fun h => c_6 (Int32.toInt_inj.mp h)
      refine lv_bipush (v := (-9)) hx hb dX12_costs_40 (by decide) ?_
      rw [hQ]
      exact W.iret (v := (-9)) hx hb hr (fun t ht hW => ⟨⟨(-9), (), rfl, trivial, trivial⟩, hS.F ht⟩) hS.2.2 dX12_costs_42
    · have t_6 : y_2.toInt = (4 : Int32).toInt := congrArg Int32.toInt c_6
      refine lv_aload_n hx hb dX12_costs_29 rfl (lv_at hl 0 rfl) ?_
      refine va_get (ci := 12) (v := .ref g9) (C := RX12) (T := TX12) (N := 34) hx hb hts (fun _ h => List.mem_cons_of_mem _ (List.mem_append_right _ h)) hown hK.1 hP 0 rfl rfl 9 (by decide) (hts (.fieldLink RX12 22 "CutAtlasModel" "price" "[I") (by decide +kernel)) (fun _ h9 => h9) rfl dX12_costs_30 ?_
      refine lv_iload_n hx hb dX12_costs_33 rfl (lv_at hl 1 rfl) ?_
      have h_7 : vp_in a1 40 := in_I (by omega) (by omega)
      refine va_iald hx hb hK.1 hP 2 0 rfl rfl (i := a1) h_7 dX12_costs_34 ?_
      refine lv_topi (fun y_8 ey_8 => ?_)
      refine lv_iconst (v := 1) hx hb dX12_costs_35 (by decide) ?_
      refine lv_iadd hx hb dX12_costs_36 ?_
      refine lv_topi (fun y_9 ey_9 => ?_)
      refine lv_goto (tgt := 42) hx hb dX12_costs_37 (by decide) ?_
      rw [hQ]
      exact W.iret (v := y_9) hx hb hr (fun t ht hW => ⟨⟨y_9, (), rfl, trivial, trivial⟩, hS.F ht⟩) hS.2.2 dX12_costs_42
  · have t_3 : y_2.toInt = (3 : Int32).toInt := congrArg Int32.toInt c_3
    refine lv_aload_n hx hb dX12_costs_10 rfl (lv_at hl 0 rfl) ?_
    refine va_get (ci := 12) (v := .ref g9) (C := RX12) (T := TX12) (N := 34) hx hb hts (fun _ h => List.mem_cons_of_mem _ (List.mem_append_right _ h)) hown hK.1 hP 0 rfl rfl 9 (by decide) (hts (.fieldLink RX12 22 "CutAtlasModel" "price" "[I") (by decide +kernel)) (fun _ h9 => h9) rfl dX12_costs_11 ?_
    refine lv_iload_n hx hb dX12_costs_14 rfl (lv_at hl 1 rfl) ?_
    have h_10 : vp_in a1 40 := in_I (by omega) (by omega)
    refine va_iald hx hb hK.1 hP 2 0 rfl rfl (i := a1) h_10 dX12_costs_15 ?_
    refine lv_topi (fun y_11 ey_11 => ?_)
    refine lv_goto (tgt := 42) hx hb dX12_costs_16 (by decide) ?_
    rw [hQ]
    exact W.iret (v := y_11) hx hb hr (fun t ht hW => ⟨⟨y_11, (), rfl, trivial, trivial⟩, hS.F ht⟩) hS.2.2 dX12_costs_42

set_option maxHeartbeats 4000000 in
set_option maxRecDepth 100000 in
theorem c_X12_costsTrace (l : Launch) (D : va_G) (cy : Nat → ClassId) (sz : Nat) (mo : Nat) (g5 : Nat) (g6 : Nat) (g7 : Nat) (g8 : Nat) (g9 : Nat) (g10 : Nat) (g12 : Nat) (g13 : Nat) (g14 : Nat) (g15 : Nat) (g16 : Nat) (g17 : Nat) (g18 : Nat) (g19 : Nat) (g20 : Nat) (g22 : Nat) (g23 : Nat) (g24 : Nat) (g29 : Nat) (g30 : Nat) (g31 : Nat) (g32 : Nat) (g33 : Nat) (s0 : Int32) (s1 : Int32) (s3 : Int32) (s4 : Int32) (s11 : Int32) (s21 : Int32) (s25 : Int32) (s26 : Int32) (s27 : Int32) (s28 : Int32) (t2 : Int64) (f5 : Nat → Int32) (a1 : Int32) (q1 : 0 ≤ a1.toInt ∧ a1.toInt < 40) : Met l yX12_costsTrace wsX12_costsTrace ({ frames := 0, cells := 0, slots := 0, locals := 0 }) (va_Pc [.ref mo, .int a1] (fun U => U.heap.size = sz ∧ va_P D vwCl [(mo, .inr (12, [.int s0, .int s1, .long t2, .int s3, .int s4, .ref g5, .ref g6, .ref g7, .ref g8, .ref g9, .ref g10, .int s11, .ref g12, .ref g13, .ref g14, .ref g15, .ref g16, .ref g17, .ref g18, .ref g19, .ref g20, .int s21, .ref g22, .ref g23, .ref g24, .int s25, .int s26, .int s27, .int s28, .ref g29, .ref g30, .ref g31, .ref g32, .ref g33])), (g5, .inl (cy 0, 40, .inl f5))] U.heap ∧ kk_ D cy U ∧ va_D (fun _ => True) [(mo, .inr (12, [.int s0, .int s1, .long t2, .int s3, .int s4, .ref g5, .ref g6, .ref g7, .ref g8, .ref g9, .ref g10, .int s11, .ref g12, .ref g13, .ref g14, .ref g15, .ref g16, .ref g17, .ref g18, .ref g19, .ref g20, .int s21, .ref g22, .ref g23, .ref g24, .int s25, .int s26, .int s27, .int s28, .ref g29, .ref g30, .ref g31, .ref g32, .ref g33])), (g5, .inl (cy 0, 40, .inl f5))])) (va_Ql (fun (r : Int64) (_ : Unit) => True) (fun (_ : Unit) (_ : State) => True) (va_A [] sz)) 0 0 (va_A [] sz) := by
  refine ofQ (cc := cX12_costsTrace) (maxL := 2) (ret := (some .long)) (by decide) rfl ?_
  intro p e s m args below meth c s₁ Q hQ B hml hv
  obtain ⟨rfl, hsz, hP, hK, hD0⟩ := hv
  have hx := B.exec
  have hb := B.bytes
  have hr := B.returns
  have hts := atoms_spec (ws := wsX12_costsTrace) B.pre
  have hown : s.vm.findClass RX12 = some m.cls := by have h_ := findClass_of_methodNamed B.named; exact h_
  have hlocks := B.notSynchronized
  subst hsz
  have hD : va_D (va_A [] s.heap.size) [] := dd_nil
  generalize hAe : va_A [] s.heap.size = A at hD hQ
  have hA : ∀ q : Nat, s.heap.size ≤ q → A q := fun q h => by rw [← hAe]; exact Or.inr h
  have hS : va_S A s.heap s.heap [] := va_S.rf
  have hl := lv_entry ([.ref mo, .int a1]) (n := 2) (Nat.le_of_ble_eq_true rfl)
  rw [lg_entry_eq]
  generalize (lg_sl ([.ref mo, .int a1]) ++ List.replicate (2 - (lg_sl ([.ref mo, .int a1])).length) Slot.unset).toArray = ls at hl ⊢
  have hl : lv_has ls 2 [(0, .ref mo), (1, .int a1)] := hl
  have z3 : (3 : Int32).toInt = 3 := by decide
  have z4 : (4 : Int32).toInt = 4 := by decide
  have zl1000 : (1000 : Int64).toInt = 1000 := by decide
  have zl10000 : (10000 : Int64).toInt = 10000 := by decide
  have zl110000 : (110000 : Int64).toInt = 110000 := by decide
  refine lv_aload_n hx hb dX12_costsTrace_0 rfl (lv_at hl 0 rfl) ?_
  refine va_get (ci := 12) (v := .ref g5) (C := RX12) (T := TX12) (N := 34) hx hb hts (fun _ h => List.mem_cons_of_mem _ (List.mem_append_right _ h)) hown hK.1 hP 0 rfl rfl 5 (by decide) (hts (.fieldLink RX12 7 "CutAtlasModel" "kind" "[I") (by decide +kernel)) (fun _ h9 => h9) rfl dX12_costsTrace_1 ?_
  refine lv_iload_n hx hb dX12_costsTrace_4 rfl (lv_at hl 1 rfl) ?_
  have h_1 : vp_in a1 40 := in_I (by omega) (by omega)
  refine va_iald hx hb hK.1 hP 1 0 rfl rfl (i := a1) h_1 dX12_costsTrace_5 ?_
  refine lv_topi (fun y_2 ey_2 => ?_)
  refine lv_iconst (v := 3) hx hb dX12_costsTrace_6 (by decide) ?_
  refine lv_icmp_ne (tgt := 16) hx hb dX12_costsTrace_7 (by decide) (fun c_3 => ?_) (fun c_3 => ?_)
  · have t_3 : ¬ y_2.toInt = (3 : Int32).toInt := fun h => c_3 (Int32.toInt_inj.mp h)
    refine lv_aload_n hx hb dX12_costsTrace_16 rfl (lv_at hl 0 rfl) ?_
    refine va_get (ci := 12) (v := .ref g5) (C := RX12) (T := TX12) (N := 34) hx hb hts (fun _ h => List.mem_cons_of_mem _ (List.mem_append_right _ h)) hown hK.1 hP 0 rfl rfl 5 (by decide) (hts (.fieldLink RX12 7 "CutAtlasModel" "kind" "[I") (by decide +kernel)) (fun _ h9 => h9) rfl dX12_costsTrace_17 ?_
    refine lv_iload_n hx hb dX12_costsTrace_20 rfl (lv_at hl 1 rfl) ?_
    have h_4 : vp_in a1 40 := in_I (by omega) (by omega)
    refine va_iald hx hb hK.1 hP 1 0 rfl rfl (i := a1) h_4 dX12_costsTrace_21 ?_
    refine lv_topi (fun y_5 ey_5 => ?_)
    have e_ := (ey_5.trans ey_2.symm).symm
    subst e_
    skip
    refine lv_iconst (v := 4) hx hb dX12_costsTrace_22 (by decide) ?_
    refine lv_icmp_ne (tgt := 32) hx hb dX12_costsTrace_23 (by decide) (fun c_6 => ?_) (fun c_6 => ?_)
    · have t_6 : ¬ y_2.toInt = (4 : Int32).toInt := fun h => c_6 (Int32.toInt_inj.mp h)
      refine lv_ldc2 (v := 1000) hx hb hown (hts (.constantLong RX12 110 (1000)) (by decide +kernel)) dX12_costsTrace_32 ?_
      rw [hQ]
      exact W.lret (v := 1000) hx hb hr (fun t ht hW => ⟨⟨1000, (), rfl, trivial, trivial⟩, hS.F ht⟩) hS.2.2 dX12_costsTrace_35
    · have t_6 : y_2.toInt = (4 : Int32).toInt := congrArg Int32.toInt c_6
      refine lv_ldc2 (v := 110000) hx hb hown (hts (.constantLong RX12 130 (110000)) (by decide +kernel)) dX12_costsTrace_26 ?_
      refine lv_goto (tgt := 35) hx hb dX12_costsTrace_29 (by decide) ?_
      rw [hQ]
      exact W.lret (v := 110000) hx hb hr (fun t ht hW => ⟨⟨110000, (), rfl, trivial, trivial⟩, hS.F ht⟩) hS.2.2 dX12_costsTrace_35
  · have t_3 : y_2.toInt = (3 : Int32).toInt := congrArg Int32.toInt c_3
    refine lv_ldc2 (v := 10000) hx hb hown (hts (.constantLong RX12 128 (10000)) (by decide +kernel)) dX12_costsTrace_10 ?_
    refine lv_goto (tgt := 35) hx hb dX12_costsTrace_13 (by decide) ?_
    rw [hQ]
    exact W.lret (v := 10000) hx hb hr (fun t ht hW => ⟨⟨10000, (), rfl, trivial, trivial⟩, hS.F ht⟩) hS.2.2 dX12_costsTrace_35

set_option maxHeartbeats 4000000 in
set_option maxRecDepth 100000 in
theorem c_X12_bitsOf (l : Launch) (D : va_G) (cy : Nat → ClassId) (sz : Nat) (a1 : Int32) : Met l yX12_bitsOf wsX12_bitsOf ({ frames := 0, cells := 0, slots := 0, locals := 0 }) (va_Pc [.int a1] (fun U => U.heap.size = sz ∧ va_P D vwCl [] U.heap ∧ kk_ D cy U ∧ va_D (fun _ => True) [])) (va_Qi (fun (r : Int32) (_ : Unit) => True) (fun (_ : Unit) (_ : State) => True) (va_A [] sz)) 0 0 (va_A [] sz) := by
  refine ofQ (cc := cX12_bitsOf) (maxL := 3) (ret := (some .int)) (by decide) rfl ?_
  intro p e s m args below meth c s₁ Q hQ B hml hv
  obtain ⟨rfl, hsz, hP, hK, hD0⟩ := hv
  have hx := B.exec
  have hb := B.bytes
  have hr := B.returns
  have hts := atoms_spec (ws := wsX12_bitsOf) B.pre
  have hown : s.vm.findClass RX12 = some m.cls := by have h_ := findClass_of_methodNamed B.named; exact h_
  have hlocks := B.notSynchronized
  subst hsz
  have hD : va_D (va_A [] s.heap.size) [] := dd_nil
  generalize hAe : va_A [] s.heap.size = A at hD hQ
  have hA : ∀ q : Nat, s.heap.size ≤ q → A q := fun q h => by rw [← hAe]; exact Or.inr h
  have hS : va_S A s.heap s.heap [] := va_S.rf
  have hl := lv_entry ([.int a1]) (n := 3) (Nat.le_of_ble_eq_true rfl)
  rw [lg_entry_eq]
  generalize (lg_sl ([.int a1]) ++ List.replicate (3 - (lg_sl ([.int a1])).length) Slot.unset).toArray = ls at hl ⊢
  have hl : lv_has ls 3 [(0, .int a1)] := hl
  have z0 : (0 : Int32).toInt = 0 := by decide
  have z1 : (1 : Int32).toInt = 1 := by decide
  have z12 : (12 : Int32).toInt = 12 := by decide
  refine lv_iconst (v := 0) hx hb dX12_bitsOf_0 (by decide) ?_
  refine lv_istore_n (lv' := [(1, .int 0), (0, .int a1)]) hx hb dX12_bitsOf_1 rfl hl (by decide) rfl (fun ls hl => ?_)
  refine lv_iconst (v := 0) hx hb dX12_bitsOf_2 (by decide) ?_
  refine lv_istore_n (lv' := [(2, .int 0), (1, .int 0), (0, .int a1)]) hx hb dX12_bitsOf_3 rfl hl (by decide) rfl (fun ls hl => ?_)
  suffices LOOP_1 : ∀ (n_1 : Nat) (x2_1 : Int32) (x1_1 : Int32) (H : Heap) (locs : List Loc) (ls : Array Slot), 12 - x2_1.toInt < (n_1 : Int) → (0 ≤ x2_1.toInt) → (x2_1.toInt ≤ 12) → va_P D vwCl [] H → va_S A s.heap H locs → lv_has ls 3 [(2, .int x2_1), (1, .int x1_1), (0, .int a1)] → W p l e ({ frames := 0, cells := 0, slots := 0, locals := 0 } : Room) s m (([.int a1] : List Value).toArray) below meth c H locs 0 0 Q (F0 m 4 ls []) from LOOP_1 ((12 - (0 : Int32).toInt).toNat + 1) (0 : Int32) (0 : Int32) _ _ _ (by omega) (by first | with_reducible assumption | omega | assumption) (by first | with_reducible assumption | omega | assumption) hP  hS (lv_sub hl [0, 1, 2] rfl)
  intro n_1
  induction n_1 with
  | zero =>
    intro x2_1 x1_1 H locs ls hm v0_1 v1_1 hP hS hl
    exact absurd hm (by omega)
  | succ n_1 ih_1 =>
    intro x2_1 x1_1 H locs ls hm v0_1 v1_1 hP hS hl
    refine lv_iload_n hx hb dX12_bitsOf_4 rfl (lv_at hl 0 rfl) ?_
    refine lv_bipush (v := 12) hx hb dX12_bitsOf_5 (by decide) ?_
    refine lv_icmp_ge (tgt := 24) hx hb dX12_bitsOf_7 (by decide) (fun c_2 => ?_) (fun c_2 => ?_)
    · have t_2 : (12 : Int32).toInt ≤ x2_1.toInt := Int32.le_iff_toInt_le.mp c_2
      refine lv_iload_n hx hb dX12_bitsOf_24 rfl (lv_at hl 1 rfl) ?_
      rw [hQ]
      exact W.iret (v := x1_1) hx hb hr (fun t ht hW => ⟨⟨x1_1, (), rfl, trivial, trivial⟩, hS.F ht⟩) hS.2.2 dX12_bitsOf_25
    · have t_2 : ¬ (12 : Int32).toInt ≤ x2_1.toInt := fun h => c_2 (Int32.le_iff_toInt_le.mpr h)
      refine lv_iload_n hx hb dX12_bitsOf_10 rfl (lv_at hl 1 rfl) ?_
      refine lv_iload_n hx hb dX12_bitsOf_11 rfl (lv_at hl 2 rfl) ?_
      refine lv_iload_n hx hb dX12_bitsOf_12 rfl (lv_at hl 0 rfl) ?_
      refine lv_ishr hx hb dX12_bitsOf_13 ?_
      refine lv_topi (fun y_3 ey_3 => ?_)
      refine lv_iconst (v := 1) hx hb dX12_bitsOf_14 (by decide) ?_
      refine lv_iand hx hb dX12_bitsOf_15 ?_
      refine lv_topi (fun y_4 ey_4 => ?_)
      refine lv_iadd hx hb dX12_bitsOf_16 ?_
      refine lv_topi (fun y_5 ey_5 => ?_)
      refine lv_istore_n (lv' := [(1, .int y_5), (2, .int x2_1), (0, .int a1)]) hx hb dX12_bitsOf_17 rfl hl (by decide) rfl (fun ls hl => ?_)
      obtain ⟨y_6, ey_6⟩ : ∃ y : Int32, y = x2_1 + 1 := ⟨_, rfl⟩
      have ty_6 : y_6.toInt = x2_1.toInt + (1 : Int32).toInt := by rw [ey_6]; exact addI (by omega) (by omega)
      refine lv_iinc (v := y_6) (lv' := [(2, .int y_6), (1, .int y_5), (0, .int a1)]) hx hb dX12_bitsOf_18 hl (k := 1) rfl (by rw [ey_6]; rfl) (by decide) rfl (fun ls hl => ?_)
      refine lv_goto (tgt := 4) hx hb dX12_bitsOf_21 (by decide) ?_
      exact ih_1 y_6 y_5 _ _ _ (by omega) (by first | with_reducible assumption | omega | assumption) (by first | with_reducible assumption | omega | assumption) hP  hS (lv_sub hl [0, 1, 2] rfl)
end
