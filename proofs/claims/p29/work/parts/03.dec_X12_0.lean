theorem dB_3_0_0 : ((((decode cX12_init 0 = .ok (.aload_n 0, 1)) ∧ (decode cX12_init 1 = .ok (.invokespecial 1, 3))) ∧ ((decode cX12_init 4 = .ok (.aload_n 0, 1)) ∧ (decode cX12_init 5 = .ok (.bipush 40, 2)))) ∧ (((decode cX12_init 7 = .ok (.newarray .int, 2)) ∧ (decode cX12_init 9 = .ok (.putfield 7, 3))) ∧ ((decode cX12_init 12 = .ok (.aload_n 0, 1)) ∧ (decode cX12_init 13 = .ok (.bipush 40, 2))))) ∧ ((((decode cX12_init 15 = .ok (.newarray .int, 2)) ∧ (decode cX12_init 17 = .ok (.putfield 13, 3))) ∧ ((decode cX12_init 20 = .ok (.aload_n 0, 1)) ∧ (decode cX12_init 21 = .ok (.bipush 40, 2)))) ∧ (((decode cX12_init 23 = .ok (.newarray .int, 2)) ∧ (decode cX12_init 25 = .ok (.putfield 16, 3))) ∧ ((decode cX12_init 28 = .ok (.aload_n 0, 1)) ∧ (decode cX12_init 29 = .ok (.bipush 40, 2))))) := by first | decide +kernel | ((repeat' apply And.intro) <;> decide +kernel)
theorem dX12_init_0 : decode cX12_init 0 = .ok (.aload_n 0, 1) := dB_3_0_0.1.1.1.1
theorem dX12_init_1 : decode cX12_init 1 = .ok (.invokespecial 1, 3) := dB_3_0_0.1.1.1.2
theorem dX12_init_4 : decode cX12_init 4 = .ok (.aload_n 0, 1) := dB_3_0_0.1.1.2.1
theorem dX12_init_5 : decode cX12_init 5 = .ok (.bipush 40, 2) := dB_3_0_0.1.1.2.2
theorem dX12_init_7 : decode cX12_init 7 = .ok (.newarray .int, 2) := dB_3_0_0.1.2.1.1
theorem dX12_init_9 : decode cX12_init 9 = .ok (.putfield 7, 3) := dB_3_0_0.1.2.1.2
theorem dX12_init_12 : decode cX12_init 12 = .ok (.aload_n 0, 1) := dB_3_0_0.1.2.2.1
theorem dX12_init_13 : decode cX12_init 13 = .ok (.bipush 40, 2) := dB_3_0_0.1.2.2.2
theorem dX12_init_15 : decode cX12_init 15 = .ok (.newarray .int, 2) := dB_3_0_0.2.1.1.1
theorem dX12_init_17 : decode cX12_init 17 = .ok (.putfield 13, 3) := dB_3_0_0.2.1.1.2
theorem dX12_init_20 : decode cX12_init 20 = .ok (.aload_n 0, 1) := dB_3_0_0.2.1.2.1
theorem dX12_init_21 : decode cX12_init 21 = .ok (.bipush 40, 2) := dB_3_0_0.2.1.2.2
theorem dX12_init_23 : decode cX12_init 23 = .ok (.newarray .int, 2) := dB_3_0_0.2.2.1.1
theorem dX12_init_25 : decode cX12_init 25 = .ok (.putfield 16, 3) := dB_3_0_0.2.2.1.2
theorem dX12_init_28 : decode cX12_init 28 = .ok (.aload_n 0, 1) := dB_3_0_0.2.2.2.1
theorem dX12_init_29 : decode cX12_init 29 = .ok (.bipush 40, 2) := dB_3_0_0.2.2.2.2
theorem dB_3_0_1 : ((((decode cX12_init 31 = .ok (.newarray .int, 2)) ∧ (decode cX12_init 33 = .ok (.putfield 19, 3))) ∧ ((decode cX12_init 36 = .ok (.aload_n 0, 1)) ∧ (decode cX12_init 37 = .ok (.bipush 40, 2)))) ∧ (((decode cX12_init 39 = .ok (.newarray .int, 2)) ∧ (decode cX12_init 41 = .ok (.putfield 22, 3))) ∧ ((decode cX12_init 44 = .ok (.aload_n 0, 1)) ∧ (decode cX12_init 45 = .ok (.bipush 40, 2))))) ∧ ((((decode cX12_init 47 = .ok (.newarray .boolean, 2)) ∧ (decode cX12_init 49 = .ok (.putfield 25, 3))) ∧ ((decode cX12_init 52 = .ok (.aload_n 0, 1)) ∧ (decode cX12_init 53 = .ok (.bipush 30, 2)))) ∧ (((decode cX12_init 55 = .ok (.newarray .int, 2)) ∧ (decode cX12_init 57 = .ok (.putfield 29, 3))) ∧ ((decode cX12_init 60 = .ok (.aload_n 0, 1)) ∧ (decode cX12_init 61 = .ok (.bipush 30, 2))))) := by first | decide +kernel | ((repeat' apply And.intro) <;> decide +kernel)
theorem dX12_init_31 : decode cX12_init 31 = .ok (.newarray .int, 2) := dB_3_0_1.1.1.1.1
theorem dX12_init_33 : decode cX12_init 33 = .ok (.putfield 19, 3) := dB_3_0_1.1.1.1.2
theorem dX12_init_36 : decode cX12_init 36 = .ok (.aload_n 0, 1) := dB_3_0_1.1.1.2.1
theorem dX12_init_37 : decode cX12_init 37 = .ok (.bipush 40, 2) := dB_3_0_1.1.1.2.2
theorem dX12_init_39 : decode cX12_init 39 = .ok (.newarray .int, 2) := dB_3_0_1.1.2.1.1
theorem dX12_init_41 : decode cX12_init 41 = .ok (.putfield 22, 3) := dB_3_0_1.1.2.1.2
theorem dX12_init_44 : decode cX12_init 44 = .ok (.aload_n 0, 1) := dB_3_0_1.1.2.2.1
theorem dX12_init_45 : decode cX12_init 45 = .ok (.bipush 40, 2) := dB_3_0_1.1.2.2.2
theorem dX12_init_47 : decode cX12_init 47 = .ok (.newarray .boolean, 2) := dB_3_0_1.2.1.1.1
theorem dX12_init_49 : decode cX12_init 49 = .ok (.putfield 25, 3) := dB_3_0_1.2.1.1.2
theorem dX12_init_52 : decode cX12_init 52 = .ok (.aload_n 0, 1) := dB_3_0_1.2.1.2.1
theorem dX12_init_53 : decode cX12_init 53 = .ok (.bipush 30, 2) := dB_3_0_1.2.1.2.2
theorem dX12_init_55 : decode cX12_init 55 = .ok (.newarray .int, 2) := dB_3_0_1.2.2.1.1
theorem dX12_init_57 : decode cX12_init 57 = .ok (.putfield 29, 3) := dB_3_0_1.2.2.1.2
theorem dX12_init_60 : decode cX12_init 60 = .ok (.aload_n 0, 1) := dB_3_0_1.2.2.2.1
theorem dX12_init_61 : decode cX12_init 61 = .ok (.bipush 30, 2) := dB_3_0_1.2.2.2.2
theorem dB_3_0_2 : ((((decode cX12_init 63 = .ok (.newarray .int, 2)) ∧ (decode cX12_init 65 = .ok (.putfield 32, 3))) ∧ ((decode cX12_init 68 = .ok (.aload_n 0, 1)) ∧ (decode cX12_init 69 = .ok (.sipush 6000, 3)))) ∧ (((decode cX12_init 72 = .ok (.newarray .int, 2)) ∧ (decode cX12_init 74 = .ok (.putfield 35, 3))) ∧ ((decode cX12_init 77 = .ok (.aload_n 0, 1)) ∧ (decode cX12_init 78 = .ok (.iconst 4, 1))))) ∧ ((((decode cX12_init 79 = .ok (.newarray .boolean, 2)) ∧ (decode cX12_init 81 = .ok (.putfield 38, 3))) ∧ ((decode cX12_init 84 = .ok (.aload_n 0, 1)) ∧ (decode cX12_init 85 = .ok (.iconst 4, 1)))) ∧ (((decode cX12_init 86 = .ok (.newarray .int, 2)) ∧ (decode cX12_init 88 = .ok (.putfield 41, 3))) ∧ ((decode cX12_init 91 = .ok (.aload_n 0, 1)) ∧ (decode cX12_init 92 = .ok (.iconst 4, 1))))) := by first | decide +kernel | ((repeat' apply And.intro) <;> decide +kernel)
theorem dX12_init_63 : decode cX12_init 63 = .ok (.newarray .int, 2) := dB_3_0_2.1.1.1.1
theorem dX12_init_65 : decode cX12_init 65 = .ok (.putfield 32, 3) := dB_3_0_2.1.1.1.2
theorem dX12_init_68 : decode cX12_init 68 = .ok (.aload_n 0, 1) := dB_3_0_2.1.1.2.1
theorem dX12_init_69 : decode cX12_init 69 = .ok (.sipush 6000, 3) := dB_3_0_2.1.1.2.2
theorem dX12_init_72 : decode cX12_init 72 = .ok (.newarray .int, 2) := dB_3_0_2.1.2.1.1
theorem dX12_init_74 : decode cX12_init 74 = .ok (.putfield 35, 3) := dB_3_0_2.1.2.1.2
theorem dX12_init_77 : decode cX12_init 77 = .ok (.aload_n 0, 1) := dB_3_0_2.1.2.2.1
theorem dX12_init_78 : decode cX12_init 78 = .ok (.iconst 4, 1) := dB_3_0_2.1.2.2.2
theorem dX12_init_79 : decode cX12_init 79 = .ok (.newarray .boolean, 2) := dB_3_0_2.2.1.1.1
theorem dX12_init_81 : decode cX12_init 81 = .ok (.putfield 38, 3) := dB_3_0_2.2.1.1.2
theorem dX12_init_84 : decode cX12_init 84 = .ok (.aload_n 0, 1) := dB_3_0_2.2.1.2.1
theorem dX12_init_85 : decode cX12_init 85 = .ok (.iconst 4, 1) := dB_3_0_2.2.1.2.2
theorem dX12_init_86 : decode cX12_init 86 = .ok (.newarray .int, 2) := dB_3_0_2.2.2.1.1
theorem dX12_init_88 : decode cX12_init 88 = .ok (.putfield 41, 3) := dB_3_0_2.2.2.1.2
theorem dX12_init_91 : decode cX12_init 91 = .ok (.aload_n 0, 1) := dB_3_0_2.2.2.2.1
theorem dX12_init_92 : decode cX12_init 92 = .ok (.iconst 4, 1) := dB_3_0_2.2.2.2.2
theorem dB_3_0_3 : ((((decode cX12_init 93 = .ok (.newarray .int, 2)) ∧ (decode cX12_init 95 = .ok (.putfield 44, 3))) ∧ ((decode cX12_init 98 = .ok (.aload_n 0, 1)) ∧ (decode cX12_init 99 = .ok (.bipush 24, 2)))) ∧ (((decode cX12_init 101 = .ok (.newarray .int, 2)) ∧ (decode cX12_init 103 = .ok (.putfield 47, 3))) ∧ ((decode cX12_init 106 = .ok (.aload_n 0, 1)) ∧ (decode cX12_init 107 = .ok (.bipush 120, 2))))) ∧ ((((decode cX12_init 109 = .ok (.newarray .long, 2)) ∧ (decode cX12_init 111 = .ok (.putfield 50, 3))) ∧ ((decode cX12_init 114 = .ok (.aload_n 0, 1)) ∧ (decode cX12_init 115 = .ok (.iconst 5, 1)))) ∧ (((decode cX12_init 116 = .ok (.newarray .long, 2)) ∧ (decode cX12_init 118 = .ok (.putfield 54, 3))) ∧ ((decode cX12_init 121 = .ok (.aload_n 0, 1)) ∧ (decode cX12_init 122 = .ok (.bipush (-9), 2))))) := by first | decide +kernel | ((repeat' apply And.intro) <;> decide +kernel)
theorem dX12_init_93 : decode cX12_init 93 = .ok (.newarray .int, 2) := dB_3_0_3.1.1.1.1
theorem dX12_init_95 : decode cX12_init 95 = .ok (.putfield 44, 3) := dB_3_0_3.1.1.1.2
theorem dX12_init_98 : decode cX12_init 98 = .ok (.aload_n 0, 1) := dB_3_0_3.1.1.2.1
theorem dX12_init_99 : decode cX12_init 99 = .ok (.bipush 24, 2) := dB_3_0_3.1.1.2.2
theorem dX12_init_101 : decode cX12_init 101 = .ok (.newarray .int, 2) := dB_3_0_3.1.2.1.1
theorem dX12_init_103 : decode cX12_init 103 = .ok (.putfield 47, 3) := dB_3_0_3.1.2.1.2
theorem dX12_init_106 : decode cX12_init 106 = .ok (.aload_n 0, 1) := dB_3_0_3.1.2.2.1
theorem dX12_init_107 : decode cX12_init 107 = .ok (.bipush 120, 2) := dB_3_0_3.1.2.2.2
theorem dX12_init_109 : decode cX12_init 109 = .ok (.newarray .long, 2) := dB_3_0_3.2.1.1.1
theorem dX12_init_111 : decode cX12_init 111 = .ok (.putfield 50, 3) := dB_3_0_3.2.1.1.2
theorem dX12_init_114 : decode cX12_init 114 = .ok (.aload_n 0, 1) := dB_3_0_3.2.1.2.1
theorem dX12_init_115 : decode cX12_init 115 = .ok (.iconst 5, 1) := dB_3_0_3.2.1.2.2
theorem dX12_init_116 : decode cX12_init 116 = .ok (.newarray .long, 2) := dB_3_0_3.2.2.1.1
theorem dX12_init_118 : decode cX12_init 118 = .ok (.putfield 54, 3) := dB_3_0_3.2.2.1.2
theorem dX12_init_121 : decode cX12_init 121 = .ok (.aload_n 0, 1) := dB_3_0_3.2.2.2.1
theorem dX12_init_122 : decode cX12_init 122 = .ok (.bipush (-9), 2) := dB_3_0_3.2.2.2.2
theorem dB_3_0_4 : ((((decode cX12_init 124 = .ok (.putfield 57, 3)) ∧ (decode cX12_init 127 = .ok (.aload_n 0, 1))) ∧ ((decode cX12_init 128 = .ok (.bipush 40, 2)) ∧ (decode cX12_init 130 = .ok (.newarray .int, 2)))) ∧ (((decode cX12_init 132 = .ok (.putfield 61, 3)) ∧ (decode cX12_init 135 = .ok (.aload_n 0, 1))) ∧ ((decode cX12_init 136 = .ok (.bipush 12, 2)) ∧ (decode cX12_init 138 = .ok (.newarray .int, 2))))) ∧ ((((decode cX12_init 140 = .ok (.putfield 64, 3)) ∧ (decode cX12_init 143 = .ok (.aload_n 0, 1))) ∧ ((decode cX12_init 144 = .ok (.bipush 12, 2)) ∧ (decode cX12_init 146 = .ok (.newarray .int, 2)))) ∧ (((decode cX12_init 148 = .ok (.putfield 67, 3)) ∧ (decode cX12_init 151 = .ok (.aload_n 0, 1))) ∧ ((decode cX12_init 152 = .ok (.bipush 12, 2)) ∧ (decode cX12_init 154 = .ok (.newarray .long, 2))))) := by first | decide +kernel | ((repeat' apply And.intro) <;> decide +kernel)
theorem dX12_init_124 : decode cX12_init 124 = .ok (.putfield 57, 3) := dB_3_0_4.1.1.1.1
theorem dX12_init_127 : decode cX12_init 127 = .ok (.aload_n 0, 1) := dB_3_0_4.1.1.1.2
theorem dX12_init_128 : decode cX12_init 128 = .ok (.bipush 40, 2) := dB_3_0_4.1.1.2.1
theorem dX12_init_130 : decode cX12_init 130 = .ok (.newarray .int, 2) := dB_3_0_4.1.1.2.2
theorem dX12_init_132 : decode cX12_init 132 = .ok (.putfield 61, 3) := dB_3_0_4.1.2.1.1
theorem dX12_init_135 : decode cX12_init 135 = .ok (.aload_n 0, 1) := dB_3_0_4.1.2.1.2
theorem dX12_init_136 : decode cX12_init 136 = .ok (.bipush 12, 2) := dB_3_0_4.1.2.2.1
theorem dX12_init_138 : decode cX12_init 138 = .ok (.newarray .int, 2) := dB_3_0_4.1.2.2.2
theorem dX12_init_140 : decode cX12_init 140 = .ok (.putfield 64, 3) := dB_3_0_4.2.1.1.1
theorem dX12_init_143 : decode cX12_init 143 = .ok (.aload_n 0, 1) := dB_3_0_4.2.1.1.2
theorem dX12_init_144 : decode cX12_init 144 = .ok (.bipush 12, 2) := dB_3_0_4.2.1.2.1
theorem dX12_init_146 : decode cX12_init 146 = .ok (.newarray .int, 2) := dB_3_0_4.2.1.2.2
theorem dX12_init_148 : decode cX12_init 148 = .ok (.putfield 67, 3) := dB_3_0_4.2.2.1.1
theorem dX12_init_151 : decode cX12_init 151 = .ok (.aload_n 0, 1) := dB_3_0_4.2.2.1.2
theorem dX12_init_152 : decode cX12_init 152 = .ok (.bipush 12, 2) := dB_3_0_4.2.2.2.1
theorem dX12_init_154 : decode cX12_init 154 = .ok (.newarray .long, 2) := dB_3_0_4.2.2.2.2
theorem dB_3_0_5 : ((((decode cX12_init 156 = .ok (.putfield 70, 3)) ∧ (decode cX12_init 159 = .ok (.aload_n 0, 1))) ∧ ((decode cX12_init 160 = .ok (.bipush 12, 2)) ∧ (decode cX12_init 162 = .ok (.newarray .int, 2)))) ∧ (((decode cX12_init 164 = .ok (.putfield 73, 3)) ∧ (decode cX12_init 167 = .ok (.aload_n 0, 1))) ∧ ((decode cX12_init 168 = .ok (.bipush 12, 2)) ∧ (decode cX12_init 170 = .ok (.newarray .int, 2))))) ∧ ((((decode cX12_init 172 = .ok (.putfield 76, 3)) ∧ (decode cX12_init 175 = .ok (.aload_n 0, 1))) ∧ ((decode cX12_init 176 = .ok (.bipush 12, 2)) ∧ (decode cX12_init 178 = .ok (.newarray .int, 2)))) ∧ (((decode cX12_init 180 = .ok (.putfield 79, 3)) ∧ (decode cX12_init 183 = .ok (.aload_n 0, 1))) ∧ ((decode cX12_init 184 = .ok (.bipush 12, 2)) ∧ (decode cX12_init 186 = .ok (.newarray .int, 2))))) := by first | decide +kernel | ((repeat' apply And.intro) <;> decide +kernel)
theorem dX12_init_156 : decode cX12_init 156 = .ok (.putfield 70, 3) := dB_3_0_5.1.1.1.1
theorem dX12_init_159 : decode cX12_init 159 = .ok (.aload_n 0, 1) := dB_3_0_5.1.1.1.2
theorem dX12_init_160 : decode cX12_init 160 = .ok (.bipush 12, 2) := dB_3_0_5.1.1.2.1
theorem dX12_init_162 : decode cX12_init 162 = .ok (.newarray .int, 2) := dB_3_0_5.1.1.2.2
theorem dX12_init_164 : decode cX12_init 164 = .ok (.putfield 73, 3) := dB_3_0_5.1.2.1.1
theorem dX12_init_167 : decode cX12_init 167 = .ok (.aload_n 0, 1) := dB_3_0_5.1.2.1.2
theorem dX12_init_168 : decode cX12_init 168 = .ok (.bipush 12, 2) := dB_3_0_5.1.2.2.1
theorem dX12_init_170 : decode cX12_init 170 = .ok (.newarray .int, 2) := dB_3_0_5.1.2.2.2
theorem dX12_init_172 : decode cX12_init 172 = .ok (.putfield 76, 3) := dB_3_0_5.2.1.1.1
theorem dX12_init_175 : decode cX12_init 175 = .ok (.aload_n 0, 1) := dB_3_0_5.2.1.1.2
theorem dX12_init_176 : decode cX12_init 176 = .ok (.bipush 12, 2) := dB_3_0_5.2.1.2.1
theorem dX12_init_178 : decode cX12_init 178 = .ok (.newarray .int, 2) := dB_3_0_5.2.1.2.2
theorem dX12_init_180 : decode cX12_init 180 = .ok (.putfield 79, 3) := dB_3_0_5.2.2.1.1
theorem dX12_init_183 : decode cX12_init 183 = .ok (.aload_n 0, 1) := dB_3_0_5.2.2.1.2
theorem dX12_init_184 : decode cX12_init 184 = .ok (.bipush 12, 2) := dB_3_0_5.2.2.2.1
theorem dX12_init_186 : decode cX12_init 186 = .ok (.newarray .int, 2) := dB_3_0_5.2.2.2.2
theorem dB_3_0_6 : ((((decode cX12_init 188 = .ok (.putfield 82, 3)) ∧ (decode cX12_init 191 = .ok (.return_, 1))) ∧ ((decode cX12_in 0 = .ok (.lload_n 0, 1)) ∧ (decode cX12_in 1 = .ok (.lload_n 2, 1)))) ∧ (((decode cX12_in 2 = .ok (.lcmp, 1)) ∧ (decode cX12_in 3 = .ok (.ifCond .lt 14, 3))) ∧ ((decode cX12_in 6 = .ok (.lload_n 0, 1)) ∧ (decode cX12_in 7 = .ok (.lload 4, 2))))) ∧ ((((decode cX12_in 9 = .ok (.lcmp, 1)) ∧ (decode cX12_in 10 = .ok (.ifCond .gt 7, 3))) ∧ ((decode cX12_in 13 = .ok (.iconst 1, 1)) ∧ (decode cX12_in 14 = .ok (.goto 4, 3)))) ∧ (((decode cX12_in 17 = .ok (.iconst 0, 1)) ∧ (decode cX12_in 18 = .ok (.ireturn, 1))) ∧ ((decode cX12_isPlace 0 = .ok (.iload_n 1, 1)) ∧ (decode cX12_isPlace 1 = .ok (.i2l, 1))))) := by first | decide +kernel | ((repeat' apply And.intro) <;> decide +kernel)
theorem dX12_init_188 : decode cX12_init 188 = .ok (.putfield 82, 3) := dB_3_0_6.1.1.1.1
theorem dX12_init_191 : decode cX12_init 191 = .ok (.return_, 1) := dB_3_0_6.1.1.1.2
theorem dX12_in_0 : decode cX12_in 0 = .ok (.lload_n 0, 1) := dB_3_0_6.1.1.2.1
theorem dX12_in_1 : decode cX12_in 1 = .ok (.lload_n 2, 1) := dB_3_0_6.1.1.2.2
theorem dX12_in_2 : decode cX12_in 2 = .ok (.lcmp, 1) := dB_3_0_6.1.2.1.1
theorem dX12_in_3 : decode cX12_in 3 = .ok (.ifCond .lt 14, 3) := dB_3_0_6.1.2.1.2
theorem dX12_in_6 : decode cX12_in 6 = .ok (.lload_n 0, 1) := dB_3_0_6.1.2.2.1
theorem dX12_in_7 : decode cX12_in 7 = .ok (.lload 4, 2) := dB_3_0_6.1.2.2.2
theorem dX12_in_9 : decode cX12_in 9 = .ok (.lcmp, 1) := dB_3_0_6.2.1.1.1
theorem dX12_in_10 : decode cX12_in 10 = .ok (.ifCond .gt 7, 3) := dB_3_0_6.2.1.1.2
theorem dX12_in_13 : decode cX12_in 13 = .ok (.iconst 1, 1) := dB_3_0_6.2.1.2.1
theorem dX12_in_14 : decode cX12_in 14 = .ok (.goto 4, 3) := dB_3_0_6.2.1.2.2
theorem dX12_in_17 : decode cX12_in 17 = .ok (.iconst 0, 1) := dB_3_0_6.2.2.1.1
theorem dX12_in_18 : decode cX12_in 18 = .ok (.ireturn, 1) := dB_3_0_6.2.2.1.2
theorem dX12_isPlace_0 : decode cX12_isPlace 0 = .ok (.iload_n 1, 1) := dB_3_0_6.2.2.2.1
theorem dX12_isPlace_1 : decode cX12_isPlace 1 = .ok (.i2l, 1) := dB_3_0_6.2.2.2.2
theorem dB_3_0_7 : ((((decode cX12_isPlace 2 = .ok (.lconst 0, 1)) ∧ (decode cX12_isPlace 3 = .ok (.aload_n 0, 1))) ∧ ((decode cX12_isPlace 4 = .ok (.getfield 88, 3)) ∧ (decode cX12_isPlace 7 = .ok (.iconst 1, 1)))) ∧ (((decode cX12_isPlace 8 = .ok (.isub, 1)) ∧ (decode cX12_isPlace 9 = .ok (.i2l, 1))) ∧ ((decode cX12_isPlace 10 = .ok (.invokestatic 91, 3)) ∧ (decode cX12_isPlace 13 = .ok (.ireturn, 1))))) ∧ ((((decode cX12_isLine 0 = .ok (.iload_n 1, 1)) ∧ (decode cX12_isLine 1 = .ok (.i2l, 1))) ∧ ((decode cX12_isLine 2 = .ok (.lconst 0, 1)) ∧ (decode cX12_isLine 3 = .ok (.aload_n 0, 1)))) ∧ (((decode cX12_isLine 4 = .ok (.getfield 95, 3)) ∧ (decode cX12_isLine 7 = .ok (.iconst 1, 1))) ∧ ((decode cX12_isLine 8 = .ok (.isub, 1)) ∧ (decode cX12_isLine 9 = .ok (.i2l, 1))))) := by first | decide +kernel | ((repeat' apply And.intro) <;> decide +kernel)
theorem dX12_isPlace_2 : decode cX12_isPlace 2 = .ok (.lconst 0, 1) := dB_3_0_7.1.1.1.1
theorem dX12_isPlace_3 : decode cX12_isPlace 3 = .ok (.aload_n 0, 1) := dB_3_0_7.1.1.1.2
theorem dX12_isPlace_4 : decode cX12_isPlace 4 = .ok (.getfield 88, 3) := dB_3_0_7.1.1.2.1
theorem dX12_isPlace_7 : decode cX12_isPlace 7 = .ok (.iconst 1, 1) := dB_3_0_7.1.1.2.2
theorem dX12_isPlace_8 : decode cX12_isPlace 8 = .ok (.isub, 1) := dB_3_0_7.1.2.1.1
theorem dX12_isPlace_9 : decode cX12_isPlace 9 = .ok (.i2l, 1) := dB_3_0_7.1.2.1.2
theorem dX12_isPlace_10 : decode cX12_isPlace 10 = .ok (.invokestatic 91, 3) := dB_3_0_7.1.2.2.1
theorem dX12_isPlace_13 : decode cX12_isPlace 13 = .ok (.ireturn, 1) := dB_3_0_7.1.2.2.2
theorem dX12_isLine_0 : decode cX12_isLine 0 = .ok (.iload_n 1, 1) := dB_3_0_7.2.1.1.1
theorem dX12_isLine_1 : decode cX12_isLine 1 = .ok (.i2l, 1) := dB_3_0_7.2.1.1.2
theorem dX12_isLine_2 : decode cX12_isLine 2 = .ok (.lconst 0, 1) := dB_3_0_7.2.1.2.1
theorem dX12_isLine_3 : decode cX12_isLine 3 = .ok (.aload_n 0, 1) := dB_3_0_7.2.1.2.2
theorem dX12_isLine_4 : decode cX12_isLine 4 = .ok (.getfield 95, 3) := dB_3_0_7.2.2.1.1
theorem dX12_isLine_7 : decode cX12_isLine 7 = .ok (.iconst 1, 1) := dB_3_0_7.2.2.1.2
theorem dX12_isLine_8 : decode cX12_isLine 8 = .ok (.isub, 1) := dB_3_0_7.2.2.2.1
theorem dX12_isLine_9 : decode cX12_isLine 9 = .ok (.i2l, 1) := dB_3_0_7.2.2.2.2
theorem dB_3_0_8 : ((((decode cX12_isLine 10 = .ok (.invokestatic 91, 3)) ∧ (decode cX12_isLine 13 = .ok (.ireturn, 1))) ∧ ((decode cX12_arePlaces 0 = .ok (.aload_n 0, 1)) ∧ (decode cX12_arePlaces 1 = .ok (.iload_n 1, 1)))) ∧ (((decode cX12_arePlaces 2 = .ok (.invokevirtual 98, 3)) ∧ (decode cX12_arePlaces 5 = .ok (.ifCond .eq 20, 3))) ∧ ((decode cX12_arePlaces 8 = .ok (.aload_n 0, 1)) ∧ (decode cX12_arePlaces 9 = .ok (.iload_n 2, 1))))) ∧ ((((decode cX12_arePlaces 10 = .ok (.invokevirtual 98, 3)) ∧ (decode cX12_arePlaces 13 = .ok (.ifCond .eq 12, 3))) ∧ ((decode cX12_arePlaces 16 = .ok (.iload_n 1, 1)) ∧ (decode cX12_arePlaces 17 = .ok (.iload_n 2, 1)))) ∧ (((decode cX12_arePlaces 18 = .ok (.if_icmp .eq 7, 3)) ∧ (decode cX12_arePlaces 21 = .ok (.iconst 1, 1))) ∧ ((decode cX12_arePlaces 22 = .ok (.goto 4, 3)) ∧ (decode cX12_arePlaces 25 = .ok (.iconst 0, 1))))) := by first | decide +kernel | ((repeat' apply And.intro) <;> decide +kernel)
theorem dX12_isLine_10 : decode cX12_isLine 10 = .ok (.invokestatic 91, 3) := dB_3_0_8.1.1.1.1
theorem dX12_isLine_13 : decode cX12_isLine 13 = .ok (.ireturn, 1) := dB_3_0_8.1.1.1.2
theorem dX12_arePlaces_0 : decode cX12_arePlaces 0 = .ok (.aload_n 0, 1) := dB_3_0_8.1.1.2.1
theorem dX12_arePlaces_1 : decode cX12_arePlaces 1 = .ok (.iload_n 1, 1) := dB_3_0_8.1.1.2.2
theorem dX12_arePlaces_2 : decode cX12_arePlaces 2 = .ok (.invokevirtual 98, 3) := dB_3_0_8.1.2.1.1
theorem dX12_arePlaces_5 : decode cX12_arePlaces 5 = .ok (.ifCond .eq 20, 3) := dB_3_0_8.1.2.1.2
theorem dX12_arePlaces_8 : decode cX12_arePlaces 8 = .ok (.aload_n 0, 1) := dB_3_0_8.1.2.2.1
theorem dX12_arePlaces_9 : decode cX12_arePlaces 9 = .ok (.iload_n 2, 1) := dB_3_0_8.1.2.2.2
theorem dX12_arePlaces_10 : decode cX12_arePlaces 10 = .ok (.invokevirtual 98, 3) := dB_3_0_8.2.1.1.1
theorem dX12_arePlaces_13 : decode cX12_arePlaces 13 = .ok (.ifCond .eq 12, 3) := dB_3_0_8.2.1.1.2
theorem dX12_arePlaces_16 : decode cX12_arePlaces 16 = .ok (.iload_n 1, 1) := dB_3_0_8.2.1.2.1
theorem dX12_arePlaces_17 : decode cX12_arePlaces 17 = .ok (.iload_n 2, 1) := dB_3_0_8.2.1.2.2
theorem dX12_arePlaces_18 : decode cX12_arePlaces 18 = .ok (.if_icmp .eq 7, 3) := dB_3_0_8.2.2.1.1
theorem dX12_arePlaces_21 : decode cX12_arePlaces 21 = .ok (.iconst 1, 1) := dB_3_0_8.2.2.1.2
theorem dX12_arePlaces_22 : decode cX12_arePlaces 22 = .ok (.goto 4, 3) := dB_3_0_8.2.2.2.1
theorem dX12_arePlaces_25 : decode cX12_arePlaces 25 = .ok (.iconst 0, 1) := dB_3_0_8.2.2.2.2
theorem dB_3_0_9 : ((((decode cX12_arePlaces 26 = .ok (.ireturn, 1)) ∧ (decode cX12_keeps 0 = .ok (.aload_n 0, 1))) ∧ ((decode cX12_keeps 1 = .ok (.getfield 102, 3)) ∧ (decode cX12_keeps 4 = .ok (.bipush 30, 2)))) ∧ (((decode cX12_keeps 6 = .ok (.if_icmp .ne 86, 3)) ∧ (decode cX12_keeps 9 = .ok (.iconst 0, 1))) ∧ ((decode cX12_keeps 10 = .ok (.istore_n 1, 1)) ∧ (decode cX12_keeps 11 = .ok (.iload_n 1, 1))))) ∧ ((((decode cX12_keeps 12 = .ok (.bipush 29, 2)) ∧ (decode cX12_keeps 14 = .ok (.if_icmp .ge 37, 3))) ∧ ((decode cX12_keeps 17 = .ok (.aload_n 0, 1)) ∧ (decode cX12_keeps 18 = .ok (.getfield 29, 3)))) ∧ (((decode cX12_keeps 21 = .ok (.iload_n 1, 1)) ∧ (decode cX12_keeps 22 = .ok (.aload_n 0, 1))) ∧ ((decode cX12_keeps 23 = .ok (.getfield 29, 3)) ∧ (decode cX12_keeps 26 = .ok (.iload_n 1, 1))))) := by first | decide +kernel | ((repeat' apply And.intro) <;> decide +kernel)
theorem dX12_arePlaces_26 : decode cX12_arePlaces 26 = .ok (.ireturn, 1) := dB_3_0_9.1.1.1.1
theorem dX12_keeps_0 : decode cX12_keeps 0 = .ok (.aload_n 0, 1) := dB_3_0_9.1.1.1.2
theorem dX12_keeps_1 : decode cX12_keeps 1 = .ok (.getfield 102, 3) := dB_3_0_9.1.1.2.1
theorem dX12_keeps_4 : decode cX12_keeps 4 = .ok (.bipush 30, 2) := dB_3_0_9.1.1.2.2
theorem dX12_keeps_6 : decode cX12_keeps 6 = .ok (.if_icmp .ne 86, 3) := dB_3_0_9.1.2.1.1
theorem dX12_keeps_9 : decode cX12_keeps 9 = .ok (.iconst 0, 1) := dB_3_0_9.1.2.1.2
theorem dX12_keeps_10 : decode cX12_keeps 10 = .ok (.istore_n 1, 1) := dB_3_0_9.1.2.2.1
theorem dX12_keeps_11 : decode cX12_keeps 11 = .ok (.iload_n 1, 1) := dB_3_0_9.1.2.2.2
theorem dX12_keeps_12 : decode cX12_keeps 12 = .ok (.bipush 29, 2) := dB_3_0_9.2.1.1.1
theorem dX12_keeps_14 : decode cX12_keeps 14 = .ok (.if_icmp .ge 37, 3) := dB_3_0_9.2.1.1.2
theorem dX12_keeps_17 : decode cX12_keeps 17 = .ok (.aload_n 0, 1) := dB_3_0_9.2.1.2.1
theorem dX12_keeps_18 : decode cX12_keeps 18 = .ok (.getfield 29, 3) := dB_3_0_9.2.1.2.2
theorem dX12_keeps_21 : decode cX12_keeps 21 = .ok (.iload_n 1, 1) := dB_3_0_9.2.2.1.1
theorem dX12_keeps_22 : decode cX12_keeps 22 = .ok (.aload_n 0, 1) := dB_3_0_9.2.2.1.2
theorem dX12_keeps_23 : decode cX12_keeps 23 = .ok (.getfield 29, 3) := dB_3_0_9.2.2.2.1
theorem dX12_keeps_26 : decode cX12_keeps 26 = .ok (.iload_n 1, 1) := dB_3_0_9.2.2.2.2
theorem dB_3_0_10 : ((((decode cX12_keeps 27 = .ok (.iconst 1, 1)) ∧ (decode cX12_keeps 28 = .ok (.iadd, 1))) ∧ ((decode cX12_keeps 29 = .ok (.iaload, 1)) ∧ (decode cX12_keeps 30 = .ok (.iastore, 1)))) ∧ (((decode cX12_keeps 31 = .ok (.aload_n 0, 1)) ∧ (decode cX12_keeps 32 = .ok (.getfield 32, 3))) ∧ ((decode cX12_keeps 35 = .ok (.iload_n 1, 1)) ∧ (decode cX12_keeps 36 = .ok (.aload_n 0, 1))))) ∧ ((((decode cX12_keeps 37 = .ok (.getfield 32, 3)) ∧ (decode cX12_keeps 40 = .ok (.iload_n 1, 1))) ∧ ((decode cX12_keeps 41 = .ok (.iconst 1, 1)) ∧ (decode cX12_keeps 42 = .ok (.iadd, 1)))) ∧ (((decode cX12_keeps 43 = .ok (.iaload, 1)) ∧ (decode cX12_keeps 44 = .ok (.iastore, 1))) ∧ ((decode cX12_keeps 45 = .ok (.iinc 1 1, 3)) ∧ (decode cX12_keeps 48 = .ok (.goto (-37), 3))))) := by first | decide +kernel | ((repeat' apply And.intro) <;> decide +kernel)
theorem dX12_keeps_27 : decode cX12_keeps 27 = .ok (.iconst 1, 1) := dB_3_0_10.1.1.1.1
theorem dX12_keeps_28 : decode cX12_keeps 28 = .ok (.iadd, 1) := dB_3_0_10.1.1.1.2
theorem dX12_keeps_29 : decode cX12_keeps 29 = .ok (.iaload, 1) := dB_3_0_10.1.1.2.1
theorem dX12_keeps_30 : decode cX12_keeps 30 = .ok (.iastore, 1) := dB_3_0_10.1.1.2.2
theorem dX12_keeps_31 : decode cX12_keeps 31 = .ok (.aload_n 0, 1) := dB_3_0_10.1.2.1.1
theorem dX12_keeps_32 : decode cX12_keeps 32 = .ok (.getfield 32, 3) := dB_3_0_10.1.2.1.2
theorem dX12_keeps_35 : decode cX12_keeps 35 = .ok (.iload_n 1, 1) := dB_3_0_10.1.2.2.1
theorem dX12_keeps_36 : decode cX12_keeps 36 = .ok (.aload_n 0, 1) := dB_3_0_10.1.2.2.2
theorem dX12_keeps_37 : decode cX12_keeps 37 = .ok (.getfield 32, 3) := dB_3_0_10.2.1.1.1
theorem dX12_keeps_40 : decode cX12_keeps 40 = .ok (.iload_n 1, 1) := dB_3_0_10.2.1.1.2
theorem dX12_keeps_41 : decode cX12_keeps 41 = .ok (.iconst 1, 1) := dB_3_0_10.2.1.2.1
theorem dX12_keeps_42 : decode cX12_keeps 42 = .ok (.iadd, 1) := dB_3_0_10.2.1.2.2
theorem dX12_keeps_43 : decode cX12_keeps 43 = .ok (.iaload, 1) := dB_3_0_10.2.2.1.1
theorem dX12_keeps_44 : decode cX12_keeps 44 = .ok (.iastore, 1) := dB_3_0_10.2.2.1.2
theorem dX12_keeps_45 : decode cX12_keeps 45 = .ok (.iinc 1 1, 3) := dB_3_0_10.2.2.2.1
theorem dX12_keeps_48 : decode cX12_keeps 48 = .ok (.goto (-37), 3) := dB_3_0_10.2.2.2.2
theorem dB_3_0_11 : ((((decode cX12_keeps 51 = .ok (.iconst 0, 1)) ∧ (decode cX12_keeps 52 = .ok (.istore_n 1, 1))) ∧ ((decode cX12_keeps 53 = .ok (.iload_n 1, 1)) ∧ (decode cX12_keeps 54 = .ok (.sipush 5800, 3)))) ∧ (((decode cX12_keeps 57 = .ok (.if_icmp .ge 25, 3)) ∧ (decode cX12_keeps 60 = .ok (.aload_n 0, 1))) ∧ ((decode cX12_keeps 61 = .ok (.getfield 35, 3)) ∧ (decode cX12_keeps 64 = .ok (.iload_n 1, 1))))) ∧ ((((decode cX12_keeps 65 = .ok (.aload_n 0, 1)) ∧ (decode cX12_keeps 66 = .ok (.getfield 35, 3))) ∧ ((decode cX12_keeps 69 = .ok (.iload_n 1, 1)) ∧ (decode cX12_keeps 70 = .ok (.sipush 200, 3)))) ∧ (((decode cX12_keeps 73 = .ok (.iadd, 1)) ∧ (decode cX12_keeps 74 = .ok (.iaload, 1))) ∧ ((decode cX12_keeps 75 = .ok (.iastore, 1)) ∧ (decode cX12_keeps 76 = .ok (.iinc 1 1, 3))))) := by first | decide +kernel | ((repeat' apply And.intro) <;> decide +kernel)
theorem dX12_keeps_51 : decode cX12_keeps 51 = .ok (.iconst 0, 1) := dB_3_0_11.1.1.1.1
theorem dX12_keeps_52 : decode cX12_keeps 52 = .ok (.istore_n 1, 1) := dB_3_0_11.1.1.1.2
theorem dX12_keeps_53 : decode cX12_keeps 53 = .ok (.iload_n 1, 1) := dB_3_0_11.1.1.2.1
theorem dX12_keeps_54 : decode cX12_keeps 54 = .ok (.sipush 5800, 3) := dB_3_0_11.1.1.2.2
theorem dX12_keeps_57 : decode cX12_keeps 57 = .ok (.if_icmp .ge 25, 3) := dB_3_0_11.1.2.1.1
theorem dX12_keeps_60 : decode cX12_keeps 60 = .ok (.aload_n 0, 1) := dB_3_0_11.1.2.1.2
theorem dX12_keeps_61 : decode cX12_keeps 61 = .ok (.getfield 35, 3) := dB_3_0_11.1.2.2.1
theorem dX12_keeps_64 : decode cX12_keeps 64 = .ok (.iload_n 1, 1) := dB_3_0_11.1.2.2.2
theorem dX12_keeps_65 : decode cX12_keeps 65 = .ok (.aload_n 0, 1) := dB_3_0_11.2.1.1.1
theorem dX12_keeps_66 : decode cX12_keeps 66 = .ok (.getfield 35, 3) := dB_3_0_11.2.1.1.2
theorem dX12_keeps_69 : decode cX12_keeps 69 = .ok (.iload_n 1, 1) := dB_3_0_11.2.1.2.1
theorem dX12_keeps_70 : decode cX12_keeps 70 = .ok (.sipush 200, 3) := dB_3_0_11.2.1.2.2
theorem dX12_keeps_73 : decode cX12_keeps 73 = .ok (.iadd, 1) := dB_3_0_11.2.2.1.1
theorem dX12_keeps_74 : decode cX12_keeps 74 = .ok (.iaload, 1) := dB_3_0_11.2.2.1.2
theorem dX12_keeps_75 : decode cX12_keeps 75 = .ok (.iastore, 1) := dB_3_0_11.2.2.2.1
theorem dX12_keeps_76 : decode cX12_keeps 76 = .ok (.iinc 1 1, 3) := dB_3_0_11.2.2.2.2
theorem dB_3_0_12 : ((((decode cX12_keeps 79 = .ok (.goto (-26), 3)) ∧ (decode cX12_keeps 82 = .ok (.aload_n 0, 1))) ∧ ((decode cX12_keeps 83 = .ok (.dup, 1)) ∧ (decode cX12_keeps 84 = .ok (.getfield 102, 3)))) ∧ (((decode cX12_keeps 87 = .ok (.iconst 1, 1)) ∧ (decode cX12_keeps 88 = .ok (.isub, 1))) ∧ ((decode cX12_keeps 89 = .ok (.putfield 102, 3)) ∧ (decode cX12_keeps 92 = .ok (.aload_n 0, 1))))) ∧ ((((decode cX12_keeps 93 = .ok (.getfield 29, 3)) ∧ (decode cX12_keeps 96 = .ok (.aload_n 0, 1))) ∧ ((decode cX12_keeps 97 = .ok (.getfield 102, 3)) ∧ (decode cX12_keeps 100 = .ok (.aload_n 0, 1)))) ∧ (((decode cX12_keeps 101 = .ok (.getfield 88, 3)) ∧ (decode cX12_keeps 104 = .ok (.iastore, 1))) ∧ ((decode cX12_keeps 105 = .ok (.aload_n 0, 1)) ∧ (decode cX12_keeps 106 = .ok (.getfield 32, 3))))) := by first | decide +kernel | ((repeat' apply And.intro) <;> decide +kernel)
theorem dX12_keeps_79 : decode cX12_keeps 79 = .ok (.goto (-26), 3) := dB_3_0_12.1.1.1.1
theorem dX12_keeps_82 : decode cX12_keeps 82 = .ok (.aload_n 0, 1) := dB_3_0_12.1.1.1.2
theorem dX12_keeps_83 : decode cX12_keeps 83 = .ok (.dup, 1) := dB_3_0_12.1.1.2.1
theorem dX12_keeps_84 : decode cX12_keeps 84 = .ok (.getfield 102, 3) := dB_3_0_12.1.1.2.2
theorem dX12_keeps_87 : decode cX12_keeps 87 = .ok (.iconst 1, 1) := dB_3_0_12.1.2.1.1
theorem dX12_keeps_88 : decode cX12_keeps 88 = .ok (.isub, 1) := dB_3_0_12.1.2.1.2
theorem dX12_keeps_89 : decode cX12_keeps 89 = .ok (.putfield 102, 3) := dB_3_0_12.1.2.2.1
theorem dX12_keeps_92 : decode cX12_keeps 92 = .ok (.aload_n 0, 1) := dB_3_0_12.1.2.2.2
theorem dX12_keeps_93 : decode cX12_keeps 93 = .ok (.getfield 29, 3) := dB_3_0_12.2.1.1.1
theorem dX12_keeps_96 : decode cX12_keeps 96 = .ok (.aload_n 0, 1) := dB_3_0_12.2.1.1.2
theorem dX12_keeps_97 : decode cX12_keeps 97 = .ok (.getfield 102, 3) := dB_3_0_12.2.1.2.1
theorem dX12_keeps_100 : decode cX12_keeps 100 = .ok (.aload_n 0, 1) := dB_3_0_12.2.1.2.2
theorem dX12_keeps_101 : decode cX12_keeps 101 = .ok (.getfield 88, 3) := dB_3_0_12.2.2.1.1
theorem dX12_keeps_104 : decode cX12_keeps 104 = .ok (.iastore, 1) := dB_3_0_12.2.2.1.2
theorem dX12_keeps_105 : decode cX12_keeps 105 = .ok (.aload_n 0, 1) := dB_3_0_12.2.2.2.1
theorem dX12_keeps_106 : decode cX12_keeps 106 = .ok (.getfield 32, 3) := dB_3_0_12.2.2.2.2
theorem dB_3_0_13 : ((((decode cX12_keeps 109 = .ok (.aload_n 0, 1)) ∧ (decode cX12_keeps 110 = .ok (.getfield 102, 3))) ∧ ((decode cX12_keeps 113 = .ok (.aload_n 0, 1)) ∧ (decode cX12_keeps 114 = .ok (.getfield 95, 3)))) ∧ (((decode cX12_keeps 117 = .ok (.iastore, 1)) ∧ (decode cX12_keeps 118 = .ok (.iconst 0, 1))) ∧ ((decode cX12_keeps 119 = .ok (.istore_n 1, 1)) ∧ (decode cX12_keeps 120 = .ok (.iload_n 1, 1))))) ∧ ((((decode cX12_keeps 121 = .ok (.bipush 40, 2)) ∧ (decode cX12_keeps 123 = .ok (.if_icmp .ge 107, 3))) ∧ ((decode cX12_keeps 126 = .ok (.sipush 200, 3)) ∧ (decode cX12_keeps 129 = .ok (.aload_n 0, 1)))) ∧ (((decode cX12_keeps 130 = .ok (.getfield 102, 3)) ∧ (decode cX12_keeps 133 = .ok (.imul, 1))) ∧ ((decode cX12_keeps 134 = .ok (.iconst 5, 1)) ∧ (decode cX12_keeps 135 = .ok (.iload_n 1, 1))))) := by first | decide +kernel | ((repeat' apply And.intro) <;> decide +kernel)
theorem dX12_keeps_109 : decode cX12_keeps 109 = .ok (.aload_n 0, 1) := dB_3_0_13.1.1.1.1
theorem dX12_keeps_110 : decode cX12_keeps 110 = .ok (.getfield 102, 3) := dB_3_0_13.1.1.1.2
theorem dX12_keeps_113 : decode cX12_keeps 113 = .ok (.aload_n 0, 1) := dB_3_0_13.1.1.2.1
theorem dX12_keeps_114 : decode cX12_keeps 114 = .ok (.getfield 95, 3) := dB_3_0_13.1.1.2.2
theorem dX12_keeps_117 : decode cX12_keeps 117 = .ok (.iastore, 1) := dB_3_0_13.1.2.1.1
theorem dX12_keeps_118 : decode cX12_keeps 118 = .ok (.iconst 0, 1) := dB_3_0_13.1.2.1.2
theorem dX12_keeps_119 : decode cX12_keeps 119 = .ok (.istore_n 1, 1) := dB_3_0_13.1.2.2.1
theorem dX12_keeps_120 : decode cX12_keeps 120 = .ok (.iload_n 1, 1) := dB_3_0_13.1.2.2.2
theorem dX12_keeps_121 : decode cX12_keeps 121 = .ok (.bipush 40, 2) := dB_3_0_13.2.1.1.1
theorem dX12_keeps_123 : decode cX12_keeps 123 = .ok (.if_icmp .ge 107, 3) := dB_3_0_13.2.1.1.2
theorem dX12_keeps_126 : decode cX12_keeps 126 = .ok (.sipush 200, 3) := dB_3_0_13.2.1.2.1
theorem dX12_keeps_129 : decode cX12_keeps 129 = .ok (.aload_n 0, 1) := dB_3_0_13.2.1.2.2
theorem dX12_keeps_130 : decode cX12_keeps 130 = .ok (.getfield 102, 3) := dB_3_0_13.2.2.1.1
theorem dX12_keeps_133 : decode cX12_keeps 133 = .ok (.imul, 1) := dB_3_0_13.2.2.1.2
theorem dX12_keeps_134 : decode cX12_keeps 134 = .ok (.iconst 5, 1) := dB_3_0_13.2.2.2.1
theorem dX12_keeps_135 : decode cX12_keeps 135 = .ok (.iload_n 1, 1) := dB_3_0_13.2.2.2.2
theorem dB_3_0_14 : ((((decode cX12_keeps 136 = .ok (.imul, 1)) ∧ (decode cX12_keeps 137 = .ok (.iadd, 1))) ∧ ((decode cX12_keeps 138 = .ok (.istore_n 2, 1)) ∧ (decode cX12_keeps 139 = .ok (.aload_n 0, 1)))) ∧ (((decode cX12_keeps 140 = .ok (.getfield 35, 3)) ∧ (decode cX12_keeps 143 = .ok (.iload_n 2, 1))) ∧ ((decode cX12_keeps 144 = .ok (.aload_n 0, 1)) ∧ (decode cX12_keeps 145 = .ok (.getfield 7, 3))))) ∧ ((((decode cX12_keeps 148 = .ok (.iload_n 1, 1)) ∧ (decode cX12_keeps 149 = .ok (.iaload, 1))) ∧ ((decode cX12_keeps 150 = .ok (.iastore, 1)) ∧ (decode cX12_keeps 151 = .ok (.aload_n 0, 1)))) ∧ (((decode cX12_keeps 152 = .ok (.getfield 35, 3)) ∧ (decode cX12_keeps 155 = .ok (.iload_n 2, 1))) ∧ ((decode cX12_keeps 156 = .ok (.iconst 1, 1)) ∧ (decode cX12_keeps 157 = .ok (.iadd, 1))))) := by first | decide +kernel | ((repeat' apply And.intro) <;> decide +kernel)
theorem dX12_keeps_136 : decode cX12_keeps 136 = .ok (.imul, 1) := dB_3_0_14.1.1.1.1
theorem dX12_keeps_137 : decode cX12_keeps 137 = .ok (.iadd, 1) := dB_3_0_14.1.1.1.2
theorem dX12_keeps_138 : decode cX12_keeps 138 = .ok (.istore_n 2, 1) := dB_3_0_14.1.1.2.1
theorem dX12_keeps_139 : decode cX12_keeps 139 = .ok (.aload_n 0, 1) := dB_3_0_14.1.1.2.2
theorem dX12_keeps_140 : decode cX12_keeps 140 = .ok (.getfield 35, 3) := dB_3_0_14.1.2.1.1
theorem dX12_keeps_143 : decode cX12_keeps 143 = .ok (.iload_n 2, 1) := dB_3_0_14.1.2.1.2
theorem dX12_keeps_144 : decode cX12_keeps 144 = .ok (.aload_n 0, 1) := dB_3_0_14.1.2.2.1
theorem dX12_keeps_145 : decode cX12_keeps 145 = .ok (.getfield 7, 3) := dB_3_0_14.1.2.2.2
theorem dX12_keeps_148 : decode cX12_keeps 148 = .ok (.iload_n 1, 1) := dB_3_0_14.2.1.1.1
theorem dX12_keeps_149 : decode cX12_keeps 149 = .ok (.iaload, 1) := dB_3_0_14.2.1.1.2
theorem dX12_keeps_150 : decode cX12_keeps 150 = .ok (.iastore, 1) := dB_3_0_14.2.1.2.1
theorem dX12_keeps_151 : decode cX12_keeps 151 = .ok (.aload_n 0, 1) := dB_3_0_14.2.1.2.2
theorem dX12_keeps_152 : decode cX12_keeps 152 = .ok (.getfield 35, 3) := dB_3_0_14.2.2.1.1
theorem dX12_keeps_155 : decode cX12_keeps 155 = .ok (.iload_n 2, 1) := dB_3_0_14.2.2.1.2
theorem dX12_keeps_156 : decode cX12_keeps 156 = .ok (.iconst 1, 1) := dB_3_0_14.2.2.2.1
theorem dX12_keeps_157 : decode cX12_keeps 157 = .ok (.iadd, 1) := dB_3_0_14.2.2.2.2
theorem dB_3_0_15 : ((((decode cX12_keeps 158 = .ok (.aload_n 0, 1)) ∧ (decode cX12_keeps 159 = .ok (.getfield 13, 3))) ∧ ((decode cX12_keeps 162 = .ok (.iload_n 1, 1)) ∧ (decode cX12_keeps 163 = .ok (.iaload, 1)))) ∧ (((decode cX12_keeps 164 = .ok (.iastore, 1)) ∧ (decode cX12_keeps 165 = .ok (.aload_n 0, 1))) ∧ ((decode cX12_keeps 166 = .ok (.getfield 35, 3)) ∧ (decode cX12_keeps 169 = .ok (.iload_n 2, 1))))) ∧ ((((decode cX12_keeps 170 = .ok (.iconst 2, 1)) ∧ (decode cX12_keeps 171 = .ok (.iadd, 1))) ∧ ((decode cX12_keeps 172 = .ok (.aload_n 0, 1)) ∧ (decode cX12_keeps 173 = .ok (.getfield 16, 3)))) ∧ (((decode cX12_keeps 176 = .ok (.iload_n 1, 1)) ∧ (decode cX12_keeps 177 = .ok (.iaload, 1))) ∧ ((decode cX12_keeps 178 = .ok (.iastore, 1)) ∧ (decode cX12_keeps 179 = .ok (.aload_n 0, 1))))) := by first | decide +kernel | ((repeat' apply And.intro) <;> decide +kernel)
theorem dX12_keeps_158 : decode cX12_keeps 158 = .ok (.aload_n 0, 1) := dB_3_0_15.1.1.1.1
theorem dX12_keeps_159 : decode cX12_keeps 159 = .ok (.getfield 13, 3) := dB_3_0_15.1.1.1.2
theorem dX12_keeps_162 : decode cX12_keeps 162 = .ok (.iload_n 1, 1) := dB_3_0_15.1.1.2.1
theorem dX12_keeps_163 : decode cX12_keeps 163 = .ok (.iaload, 1) := dB_3_0_15.1.1.2.2
theorem dX12_keeps_164 : decode cX12_keeps 164 = .ok (.iastore, 1) := dB_3_0_15.1.2.1.1
theorem dX12_keeps_165 : decode cX12_keeps 165 = .ok (.aload_n 0, 1) := dB_3_0_15.1.2.1.2
theorem dX12_keeps_166 : decode cX12_keeps 166 = .ok (.getfield 35, 3) := dB_3_0_15.1.2.2.1
theorem dX12_keeps_169 : decode cX12_keeps 169 = .ok (.iload_n 2, 1) := dB_3_0_15.1.2.2.2
theorem dX12_keeps_170 : decode cX12_keeps 170 = .ok (.iconst 2, 1) := dB_3_0_15.2.1.1.1
theorem dX12_keeps_171 : decode cX12_keeps 171 = .ok (.iadd, 1) := dB_3_0_15.2.1.1.2
theorem dX12_keeps_172 : decode cX12_keeps 172 = .ok (.aload_n 0, 1) := dB_3_0_15.2.1.2.1
theorem dX12_keeps_173 : decode cX12_keeps 173 = .ok (.getfield 16, 3) := dB_3_0_15.2.1.2.2
theorem dX12_keeps_176 : decode cX12_keeps 176 = .ok (.iload_n 1, 1) := dB_3_0_15.2.2.1.1
theorem dX12_keeps_177 : decode cX12_keeps 177 = .ok (.iaload, 1) := dB_3_0_15.2.2.1.2
theorem dX12_keeps_178 : decode cX12_keeps 178 = .ok (.iastore, 1) := dB_3_0_15.2.2.2.1
theorem dX12_keeps_179 : decode cX12_keeps 179 = .ok (.aload_n 0, 1) := dB_3_0_15.2.2.2.2
theorem dB_3_0_16 : ((((decode cX12_keeps 180 = .ok (.getfield 35, 3)) ∧ (decode cX12_keeps 183 = .ok (.iload_n 2, 1))) ∧ ((decode cX12_keeps 184 = .ok (.iconst 3, 1)) ∧ (decode cX12_keeps 185 = .ok (.iadd, 1)))) ∧ (((decode cX12_keeps 186 = .ok (.aload_n 0, 1)) ∧ (decode cX12_keeps 187 = .ok (.getfield 19, 3))) ∧ ((decode cX12_keeps 190 = .ok (.iload_n 1, 1)) ∧ (decode cX12_keeps 191 = .ok (.iaload, 1))))) ∧ ((((decode cX12_keeps 192 = .ok (.iastore, 1)) ∧ (decode cX12_keeps 193 = .ok (.aload_n 0, 1))) ∧ ((decode cX12_keeps 194 = .ok (.getfield 35, 3)) ∧ (decode cX12_keeps 197 = .ok (.iload_n 2, 1)))) ∧ (((decode cX12_keeps 198 = .ok (.iconst 4, 1)) ∧ (decode cX12_keeps 199 = .ok (.iadd, 1))) ∧ ((decode cX12_keeps 200 = .ok (.aload_n 0, 1)) ∧ (decode cX12_keeps 201 = .ok (.getfield 22, 3))))) := by first | decide +kernel | ((repeat' apply And.intro) <;> decide +kernel)
theorem dX12_keeps_180 : decode cX12_keeps 180 = .ok (.getfield 35, 3) := dB_3_0_16.1.1.1.1
theorem dX12_keeps_183 : decode cX12_keeps 183 = .ok (.iload_n 2, 1) := dB_3_0_16.1.1.1.2
theorem dX12_keeps_184 : decode cX12_keeps 184 = .ok (.iconst 3, 1) := dB_3_0_16.1.1.2.1
theorem dX12_keeps_185 : decode cX12_keeps 185 = .ok (.iadd, 1) := dB_3_0_16.1.1.2.2
theorem dX12_keeps_186 : decode cX12_keeps 186 = .ok (.aload_n 0, 1) := dB_3_0_16.1.2.1.1
theorem dX12_keeps_187 : decode cX12_keeps 187 = .ok (.getfield 19, 3) := dB_3_0_16.1.2.1.2
theorem dX12_keeps_190 : decode cX12_keeps 190 = .ok (.iload_n 1, 1) := dB_3_0_16.1.2.2.1
theorem dX12_keeps_191 : decode cX12_keeps 191 = .ok (.iaload, 1) := dB_3_0_16.1.2.2.2
theorem dX12_keeps_192 : decode cX12_keeps 192 = .ok (.iastore, 1) := dB_3_0_16.2.1.1.1
theorem dX12_keeps_193 : decode cX12_keeps 193 = .ok (.aload_n 0, 1) := dB_3_0_16.2.1.1.2
theorem dX12_keeps_194 : decode cX12_keeps 194 = .ok (.getfield 35, 3) := dB_3_0_16.2.1.2.1
theorem dX12_keeps_197 : decode cX12_keeps 197 = .ok (.iload_n 2, 1) := dB_3_0_16.2.1.2.2
theorem dX12_keeps_198 : decode cX12_keeps 198 = .ok (.iconst 4, 1) := dB_3_0_16.2.2.1.1
theorem dX12_keeps_199 : decode cX12_keeps 199 = .ok (.iadd, 1) := dB_3_0_16.2.2.1.2
theorem dX12_keeps_200 : decode cX12_keeps 200 = .ok (.aload_n 0, 1) := dB_3_0_16.2.2.2.1
theorem dX12_keeps_201 : decode cX12_keeps 201 = .ok (.getfield 22, 3) := dB_3_0_16.2.2.2.2
theorem dB_3_0_17 : ((((decode cX12_keeps 204 = .ok (.iload_n 1, 1)) ∧ (decode cX12_keeps 205 = .ok (.iaload, 1))) ∧ ((decode cX12_keeps 206 = .ok (.aload_n 0, 1)) ∧ (decode cX12_keeps 207 = .ok (.getfield 25, 3)))) ∧ (((decode cX12_keeps 210 = .ok (.iload_n 1, 1)) ∧ (decode cX12_keeps 211 = .ok (.baload, 1))) ∧ ((decode cX12_keeps 212 = .ok (.ifCond .eq 9, 3)) ∧ (decode cX12_keeps 215 = .ok (.sipush 1000, 3))))) ∧ ((((decode cX12_keeps 218 = .ok (.goto 4, 3)) ∧ (decode cX12_keeps 221 = .ok (.iconst 0, 1))) ∧ ((decode cX12_keeps 222 = .ok (.iadd, 1)) ∧ (decode cX12_keeps 223 = .ok (.iastore, 1)))) ∧ (((decode cX12_keeps 224 = .ok (.iinc 1 1, 3)) ∧ (decode cX12_keeps 227 = .ok (.goto (-107), 3))) ∧ ((decode cX12_keeps 230 = .ok (.aload_n 0, 1)) ∧ (decode cX12_keeps 231 = .ok (.dup, 1))))) := by first | decide +kernel | ((repeat' apply And.intro) <;> decide +kernel)
theorem dX12_keeps_204 : decode cX12_keeps 204 = .ok (.iload_n 1, 1) := dB_3_0_17.1.1.1.1
theorem dX12_keeps_205 : decode cX12_keeps 205 = .ok (.iaload, 1) := dB_3_0_17.1.1.1.2
theorem dX12_keeps_206 : decode cX12_keeps 206 = .ok (.aload_n 0, 1) := dB_3_0_17.1.1.2.1
theorem dX12_keeps_207 : decode cX12_keeps 207 = .ok (.getfield 25, 3) := dB_3_0_17.1.1.2.2
theorem dX12_keeps_210 : decode cX12_keeps 210 = .ok (.iload_n 1, 1) := dB_3_0_17.1.2.1.1
theorem dX12_keeps_211 : decode cX12_keeps 211 = .ok (.baload, 1) := dB_3_0_17.1.2.1.2
theorem dX12_keeps_212 : decode cX12_keeps 212 = .ok (.ifCond .eq 9, 3) := dB_3_0_17.1.2.2.1
theorem dX12_keeps_215 : decode cX12_keeps 215 = .ok (.sipush 1000, 3) := dB_3_0_17.1.2.2.2
theorem dX12_keeps_218 : decode cX12_keeps 218 = .ok (.goto 4, 3) := dB_3_0_17.2.1.1.1
theorem dX12_keeps_221 : decode cX12_keeps 221 = .ok (.iconst 0, 1) := dB_3_0_17.2.1.1.2
theorem dX12_keeps_222 : decode cX12_keeps 222 = .ok (.iadd, 1) := dB_3_0_17.2.1.2.1
theorem dX12_keeps_223 : decode cX12_keeps 223 = .ok (.iastore, 1) := dB_3_0_17.2.1.2.2
theorem dX12_keeps_224 : decode cX12_keeps 224 = .ok (.iinc 1 1, 3) := dB_3_0_17.2.2.1.1
theorem dX12_keeps_227 : decode cX12_keeps 227 = .ok (.goto (-107), 3) := dB_3_0_17.2.2.1.2
theorem dX12_keeps_230 : decode cX12_keeps 230 = .ok (.aload_n 0, 1) := dB_3_0_17.2.2.2.1
theorem dX12_keeps_231 : decode cX12_keeps 231 = .ok (.dup, 1) := dB_3_0_17.2.2.2.2
theorem dB_3_0_18 : ((((decode cX12_keeps 232 = .ok (.getfield 102, 3)) ∧ (decode cX12_keeps 235 = .ok (.iconst 1, 1))) ∧ ((decode cX12_keeps 236 = .ok (.iadd, 1)) ∧ (decode cX12_keeps 237 = .ok (.putfield 102, 3)))) ∧ (((decode cX12_keeps 240 = .ok (.return_, 1)) ∧ (decode cX12_place 0 = .ok (.aload_n 0, 1))) ∧ ((decode cX12_place 1 = .ok (.iconst 0, 1)) ∧ (decode cX12_place 2 = .ok (.putfield 85, 3))))) ∧ ((((decode cX12_place 5 = .ok (.aload_n 0, 1)) ∧ (decode cX12_place 6 = .ok (.getfield 88, 3))) ∧ ((decode cX12_place 9 = .ok (.bipush 12, 2)) ∧ (decode cX12_place 11 = .ok (.if_icmp .ne 6, 3)))) ∧ (((decode cX12_place 14 = .ok (.bipush (-3), 2)) ∧ (decode cX12_place 16 = .ok (.ireturn, 1))) ∧ ((decode cX12_place 17 = .ok (.aload_n 0, 1)) ∧ (decode cX12_place 18 = .ok (.invokevirtual 105, 3))))) := by first | decide +kernel | ((repeat' apply And.intro) <;> decide +kernel)
theorem dX12_keeps_232 : decode cX12_keeps 232 = .ok (.getfield 102, 3) := dB_3_0_18.1.1.1.1
theorem dX12_keeps_235 : decode cX12_keeps 235 = .ok (.iconst 1, 1) := dB_3_0_18.1.1.1.2
theorem dX12_keeps_236 : decode cX12_keeps 236 = .ok (.iadd, 1) := dB_3_0_18.1.1.2.1
theorem dX12_keeps_237 : decode cX12_keeps 237 = .ok (.putfield 102, 3) := dB_3_0_18.1.1.2.2
theorem dX12_keeps_240 : decode cX12_keeps 240 = .ok (.return_, 1) := dB_3_0_18.1.2.1.1
theorem dX12_place_0 : decode cX12_place 0 = .ok (.aload_n 0, 1) := dB_3_0_18.1.2.1.2
theorem dX12_place_1 : decode cX12_place 1 = .ok (.iconst 0, 1) := dB_3_0_18.1.2.2.1
theorem dX12_place_2 : decode cX12_place 2 = .ok (.putfield 85, 3) := dB_3_0_18.1.2.2.2
theorem dX12_place_5 : decode cX12_place 5 = .ok (.aload_n 0, 1) := dB_3_0_18.2.1.1.1
theorem dX12_place_6 : decode cX12_place 6 = .ok (.getfield 88, 3) := dB_3_0_18.2.1.1.2
theorem dX12_place_9 : decode cX12_place 9 = .ok (.bipush 12, 2) := dB_3_0_18.2.1.2.1
theorem dX12_place_11 : decode cX12_place 11 = .ok (.if_icmp .ne 6, 3) := dB_3_0_18.2.1.2.2
theorem dX12_place_14 : decode cX12_place 14 = .ok (.bipush (-3), 2) := dB_3_0_18.2.2.1.1
theorem dX12_place_16 : decode cX12_place 16 = .ok (.ireturn, 1) := dB_3_0_18.2.2.1.2
theorem dX12_place_17 : decode cX12_place 17 = .ok (.aload_n 0, 1) := dB_3_0_18.2.2.2.1
theorem dX12_place_18 : decode cX12_place 18 = .ok (.invokevirtual 105, 3) := dB_3_0_18.2.2.2.2
theorem dB_3_0_19 : ((((decode cX12_place 21 = .ok (.aload_n 0, 1)) ∧ (decode cX12_place 22 = .ok (.dup, 1))) ∧ ((decode cX12_place 23 = .ok (.getfield 88, 3)) ∧ (decode cX12_place 26 = .ok (.iconst 1, 1)))) ∧ (((decode cX12_place 27 = .ok (.iadd, 1)) ∧ (decode cX12_place 28 = .ok (.putfield 88, 3))) ∧ ((decode cX12_place 31 = .ok (.aload_n 0, 1)) ∧ (decode cX12_place 32 = .ok (.getfield 88, 3))))) ∧ ((((decode cX12_place 35 = .ok (.iconst 1, 1)) ∧ (decode cX12_place 36 = .ok (.isub, 1))) ∧ ((decode cX12_place 37 = .ok (.ireturn, 1)) ∧ (decode cX12_refused 0 = .ok (.lload_n 1, 1)))) ∧ (((decode cX12_refused 1 = .ok (.lconst 0, 1)) ∧ (decode cX12_refused 2 = .ok (.ldc2_w 108, 3))) ∧ ((decode cX12_refused 5 = .ok (.invokestatic 91, 3)) ∧ (decode cX12_refused 8 = .ok (.ifCond .eq 69, 3))))) := by first | decide +kernel | ((repeat' apply And.intro) <;> decide +kernel)
theorem dX12_place_21 : decode cX12_place 21 = .ok (.aload_n 0, 1) := dB_3_0_19.1.1.1.1
theorem dX12_place_22 : decode cX12_place 22 = .ok (.dup, 1) := dB_3_0_19.1.1.1.2
theorem dX12_place_23 : decode cX12_place 23 = .ok (.getfield 88, 3) := dB_3_0_19.1.1.2.1
theorem dX12_place_26 : decode cX12_place 26 = .ok (.iconst 1, 1) := dB_3_0_19.1.1.2.2
theorem dX12_place_27 : decode cX12_place 27 = .ok (.iadd, 1) := dB_3_0_19.1.2.1.1
theorem dX12_place_28 : decode cX12_place 28 = .ok (.putfield 88, 3) := dB_3_0_19.1.2.1.2
theorem dX12_place_31 : decode cX12_place 31 = .ok (.aload_n 0, 1) := dB_3_0_19.1.2.2.1
theorem dX12_place_32 : decode cX12_place 32 = .ok (.getfield 88, 3) := dB_3_0_19.1.2.2.2
theorem dX12_place_35 : decode cX12_place 35 = .ok (.iconst 1, 1) := dB_3_0_19.2.1.1.1
theorem dX12_place_36 : decode cX12_place 36 = .ok (.isub, 1) := dB_3_0_19.2.1.1.2
theorem dX12_place_37 : decode cX12_place 37 = .ok (.ireturn, 1) := dB_3_0_19.2.1.2.1
theorem dX12_refused_0 : decode cX12_refused 0 = .ok (.lload_n 1, 1) := dB_3_0_19.2.1.2.2
theorem dX12_refused_1 : decode cX12_refused 1 = .ok (.lconst 0, 1) := dB_3_0_19.2.2.1.1
theorem dX12_refused_2 : decode cX12_refused 2 = .ok (.ldc2_w 108, 3) := dB_3_0_19.2.2.1.2
theorem dX12_refused_5 : decode cX12_refused 5 = .ok (.invokestatic 91, 3) := dB_3_0_19.2.2.2.1
theorem dX12_refused_8 : decode cX12_refused 8 = .ok (.ifCond .eq 69, 3) := dB_3_0_19.2.2.2.2
theorem dB_3_0_20 : ((((decode cX12_refused 11 = .ok (.lload_n 3, 1)) ∧ (decode cX12_refused 12 = .ok (.lconst 0, 1))) ∧ ((decode cX12_refused 13 = .ok (.aload_n 0, 1)) ∧ (decode cX12_refused 14 = .ok (.getfield 88, 3)))) ∧ (((decode cX12_refused 17 = .ok (.iconst 1, 1)) ∧ (decode cX12_refused 18 = .ok (.isub, 1))) ∧ ((decode cX12_refused 19 = .ok (.i2l, 1)) ∧ (decode cX12_refused 20 = .ok (.invokestatic 91, 3))))) ∧ ((((decode cX12_refused 23 = .ok (.ifCond .eq 54, 3)) ∧ (decode cX12_refused 26 = .ok (.lload 5, 2))) ∧ ((decode cX12_refused 28 = .ok (.lconst 0, 1)) ∧ (decode cX12_refused 29 = .ok (.aload_n 0, 1)))) ∧ (((decode cX12_refused 30 = .ok (.getfield 88, 3)) ∧ (decode cX12_refused 33 = .ok (.iconst 1, 1))) ∧ ((decode cX12_refused 34 = .ok (.isub, 1)) ∧ (decode cX12_refused 35 = .ok (.i2l, 1))))) := by first | decide +kernel | ((repeat' apply And.intro) <;> decide +kernel)
theorem dX12_refused_11 : decode cX12_refused 11 = .ok (.lload_n 3, 1) := dB_3_0_20.1.1.1.1
theorem dX12_refused_12 : decode cX12_refused 12 = .ok (.lconst 0, 1) := dB_3_0_20.1.1.1.2
theorem dX12_refused_13 : decode cX12_refused 13 = .ok (.aload_n 0, 1) := dB_3_0_20.1.1.2.1
theorem dX12_refused_14 : decode cX12_refused 14 = .ok (.getfield 88, 3) := dB_3_0_20.1.1.2.2
theorem dX12_refused_17 : decode cX12_refused 17 = .ok (.iconst 1, 1) := dB_3_0_20.1.2.1.1
theorem dX12_refused_18 : decode cX12_refused 18 = .ok (.isub, 1) := dB_3_0_20.1.2.1.2
theorem dX12_refused_19 : decode cX12_refused 19 = .ok (.i2l, 1) := dB_3_0_20.1.2.2.1
theorem dX12_refused_20 : decode cX12_refused 20 = .ok (.invokestatic 91, 3) := dB_3_0_20.1.2.2.2
theorem dX12_refused_23 : decode cX12_refused 23 = .ok (.ifCond .eq 54, 3) := dB_3_0_20.2.1.1.1
theorem dX12_refused_26 : decode cX12_refused 26 = .ok (.lload 5, 2) := dB_3_0_20.2.1.1.2
theorem dX12_refused_28 : decode cX12_refused 28 = .ok (.lconst 0, 1) := dB_3_0_20.2.1.2.1
theorem dX12_refused_29 : decode cX12_refused 29 = .ok (.aload_n 0, 1) := dB_3_0_20.2.1.2.2
theorem dX12_refused_30 : decode cX12_refused 30 = .ok (.getfield 88, 3) := dB_3_0_20.2.2.1.1
theorem dX12_refused_33 : decode cX12_refused 33 = .ok (.iconst 1, 1) := dB_3_0_20.2.2.1.2
theorem dX12_refused_34 : decode cX12_refused 34 = .ok (.isub, 1) := dB_3_0_20.2.2.2.1
theorem dX12_refused_35 : decode cX12_refused 35 = .ok (.i2l, 1) := dB_3_0_20.2.2.2.2
theorem dB_3_0_21 : ((((decode cX12_refused 36 = .ok (.invokestatic 91, 3)) ∧ (decode cX12_refused 39 = .ok (.ifCond .eq 38, 3))) ∧ ((decode cX12_refused 42 = .ok (.lload_n 3, 1)) ∧ (decode cX12_refused 43 = .ok (.lload 5, 2)))) ∧ (((decode cX12_refused 45 = .ok (.lcmp, 1)) ∧ (decode cX12_refused 46 = .ok (.ifCond .eq 31, 3))) ∧ ((decode cX12_refused 49 = .ok (.lload 7, 2)) ∧ (decode cX12_refused 51 = .ok (.lconst 0, 1))))) ∧ ((((decode cX12_refused 52 = .ok (.ldc2_w 110, 3)) ∧ (decode cX12_refused 55 = .ok (.invokestatic 91, 3))) ∧ ((decode cX12_refused 58 = .ok (.ifCond .eq 19, 3)) ∧ (decode cX12_refused 61 = .ok (.lload 9, 2)))) ∧ (((decode cX12_refused 63 = .ok (.lconst 0, 1)) ∧ (decode cX12_refused 64 = .ok (.ldc2_w 112, 3))) ∧ ((decode cX12_refused 67 = .ok (.invokestatic 91, 3)) ∧ (decode cX12_refused 70 = .ok (.ifCond .eq 7, 3))))) := by first | decide +kernel | ((repeat' apply And.intro) <;> decide +kernel)
theorem dX12_refused_36 : decode cX12_refused 36 = .ok (.invokestatic 91, 3) := dB_3_0_21.1.1.1.1
theorem dX12_refused_39 : decode cX12_refused 39 = .ok (.ifCond .eq 38, 3) := dB_3_0_21.1.1.1.2
theorem dX12_refused_42 : decode cX12_refused 42 = .ok (.lload_n 3, 1) := dB_3_0_21.1.1.2.1
theorem dX12_refused_43 : decode cX12_refused 43 = .ok (.lload 5, 2) := dB_3_0_21.1.1.2.2
theorem dX12_refused_45 : decode cX12_refused 45 = .ok (.lcmp, 1) := dB_3_0_21.1.2.1.1
theorem dX12_refused_46 : decode cX12_refused 46 = .ok (.ifCond .eq 31, 3) := dB_3_0_21.1.2.1.2
theorem dX12_refused_49 : decode cX12_refused 49 = .ok (.lload 7, 2) := dB_3_0_21.1.2.2.1
theorem dX12_refused_51 : decode cX12_refused 51 = .ok (.lconst 0, 1) := dB_3_0_21.1.2.2.2
theorem dX12_refused_52 : decode cX12_refused 52 = .ok (.ldc2_w 110, 3) := dB_3_0_21.2.1.1.1
theorem dX12_refused_55 : decode cX12_refused 55 = .ok (.invokestatic 91, 3) := dB_3_0_21.2.1.1.2
theorem dX12_refused_58 : decode cX12_refused 58 = .ok (.ifCond .eq 19, 3) := dB_3_0_21.2.1.2.1
theorem dX12_refused_61 : decode cX12_refused 61 = .ok (.lload 9, 2) := dB_3_0_21.2.1.2.2
theorem dX12_refused_63 : decode cX12_refused 63 = .ok (.lconst 0, 1) := dB_3_0_21.2.2.1.1
theorem dX12_refused_64 : decode cX12_refused 64 = .ok (.ldc2_w 112, 3) := dB_3_0_21.2.2.1.2
theorem dX12_refused_67 : decode cX12_refused 67 = .ok (.invokestatic 91, 3) := dB_3_0_21.2.2.2.1
theorem dX12_refused_70 : decode cX12_refused 70 = .ok (.ifCond .eq 7, 3) := dB_3_0_21.2.2.2.2
theorem dB_3_0_22 : ((((decode cX12_refused 73 = .ok (.iconst 1, 1)) ∧ (decode cX12_refused 74 = .ok (.goto 4, 3))) ∧ ((decode cX12_refused 77 = .ok (.iconst 0, 1)) ∧ (decode cX12_refused 78 = .ok (.istore 11, 2)))) ∧ (((decode cX12_refused 80 = .ok (.iload 11, 2)) ∧ (decode cX12_refused 82 = .ok (.ifCond .ne 7, 3))) ∧ ((decode cX12_refused 85 = .ok (.iconst (-1), 1)) ∧ (decode cX12_refused 86 = .ok (.goto 18, 3))))) ∧ ((((decode cX12_refused 89 = .ok (.aload_n 0, 1)) ∧ (decode cX12_refused 90 = .ok (.getfield 95, 3))) ∧ ((decode cX12_refused 93 = .ok (.bipush 40, 2)) ∧ (decode cX12_refused 95 = .ok (.if_icmp .ne 8, 3)))) ∧ (((decode cX12_refused 98 = .ok (.bipush (-3), 2)) ∧ (decode cX12_refused 100 = .ok (.goto 4, 3))) ∧ ((decode cX12_refused 103 = .ok (.iconst 0, 1)) ∧ (decode cX12_refused 104 = .ok (.ireturn, 1))))) := by first | decide +kernel | ((repeat' apply And.intro) <;> decide +kernel)
theorem dX12_refused_73 : decode cX12_refused 73 = .ok (.iconst 1, 1) := dB_3_0_22.1.1.1.1
theorem dX12_refused_74 : decode cX12_refused 74 = .ok (.goto 4, 3) := dB_3_0_22.1.1.1.2
theorem dX12_refused_77 : decode cX12_refused 77 = .ok (.iconst 0, 1) := dB_3_0_22.1.1.2.1
theorem dX12_refused_78 : decode cX12_refused 78 = .ok (.istore 11, 2) := dB_3_0_22.1.1.2.2
theorem dX12_refused_80 : decode cX12_refused 80 = .ok (.iload 11, 2) := dB_3_0_22.1.2.1.1
theorem dX12_refused_82 : decode cX12_refused 82 = .ok (.ifCond .ne 7, 3) := dB_3_0_22.1.2.1.2
theorem dX12_refused_85 : decode cX12_refused 85 = .ok (.iconst (-1), 1) := dB_3_0_22.1.2.2.1
theorem dX12_refused_86 : decode cX12_refused 86 = .ok (.goto 18, 3) := dB_3_0_22.1.2.2.2
theorem dX12_refused_89 : decode cX12_refused 89 = .ok (.aload_n 0, 1) := dB_3_0_22.2.1.1.1
theorem dX12_refused_90 : decode cX12_refused 90 = .ok (.getfield 95, 3) := dB_3_0_22.2.1.1.2
theorem dX12_refused_93 : decode cX12_refused 93 = .ok (.bipush 40, 2) := dB_3_0_22.2.1.2.1
theorem dX12_refused_95 : decode cX12_refused 95 = .ok (.if_icmp .ne 8, 3) := dB_3_0_22.2.1.2.2
theorem dX12_refused_98 : decode cX12_refused 98 = .ok (.bipush (-3), 2) := dB_3_0_22.2.2.1.1
theorem dX12_refused_100 : decode cX12_refused 100 = .ok (.goto 4, 3) := dB_3_0_22.2.2.1.2
theorem dX12_refused_103 : decode cX12_refused 103 = .ok (.iconst 0, 1) := dB_3_0_22.2.2.2.1
theorem dX12_refused_104 : decode cX12_refused 104 = .ok (.ireturn, 1) := dB_3_0_22.2.2.2.2
theorem dB_3_0_23 : ((((decode cX12_adds 0 = .ok (.aload_n 0, 1)) ∧ (decode cX12_adds 1 = .ok (.getfield 7, 3))) ∧ ((decode cX12_adds 4 = .ok (.aload_n 0, 1)) ∧ (decode cX12_adds 5 = .ok (.getfield 95, 3)))) ∧ (((decode cX12_adds 8 = .ok (.iload_n 1, 1)) ∧ (decode cX12_adds 9 = .ok (.iastore, 1))) ∧ ((decode cX12_adds 10 = .ok (.aload_n 0, 1)) ∧ (decode cX12_adds 11 = .ok (.getfield 13, 3))))) ∧ ((((decode cX12_adds 14 = .ok (.aload_n 0, 1)) ∧ (decode cX12_adds 15 = .ok (.getfield 95, 3))) ∧ ((decode cX12_adds 18 = .ok (.iload_n 2, 1)) ∧ (decode cX12_adds 19 = .ok (.iastore, 1)))) ∧ (((decode cX12_adds 20 = .ok (.aload_n 0, 1)) ∧ (decode cX12_adds 21 = .ok (.getfield 16, 3))) ∧ ((decode cX12_adds 24 = .ok (.aload_n 0, 1)) ∧ (decode cX12_adds 25 = .ok (.getfield 95, 3))))) := by first | decide +kernel | ((repeat' apply And.intro) <;> decide +kernel)
theorem dX12_adds_0 : decode cX12_adds 0 = .ok (.aload_n 0, 1) := dB_3_0_23.1.1.1.1
theorem dX12_adds_1 : decode cX12_adds 1 = .ok (.getfield 7, 3) := dB_3_0_23.1.1.1.2
theorem dX12_adds_4 : decode cX12_adds 4 = .ok (.aload_n 0, 1) := dB_3_0_23.1.1.2.1
theorem dX12_adds_5 : decode cX12_adds 5 = .ok (.getfield 95, 3) := dB_3_0_23.1.1.2.2
theorem dX12_adds_8 : decode cX12_adds 8 = .ok (.iload_n 1, 1) := dB_3_0_23.1.2.1.1
theorem dX12_adds_9 : decode cX12_adds 9 = .ok (.iastore, 1) := dB_3_0_23.1.2.1.2
theorem dX12_adds_10 : decode cX12_adds 10 = .ok (.aload_n 0, 1) := dB_3_0_23.1.2.2.1
theorem dX12_adds_11 : decode cX12_adds 11 = .ok (.getfield 13, 3) := dB_3_0_23.1.2.2.2
theorem dX12_adds_14 : decode cX12_adds 14 = .ok (.aload_n 0, 1) := dB_3_0_23.2.1.1.1
theorem dX12_adds_15 : decode cX12_adds 15 = .ok (.getfield 95, 3) := dB_3_0_23.2.1.1.2
theorem dX12_adds_18 : decode cX12_adds 18 = .ok (.iload_n 2, 1) := dB_3_0_23.2.1.2.1
theorem dX12_adds_19 : decode cX12_adds 19 = .ok (.iastore, 1) := dB_3_0_23.2.1.2.2
theorem dX12_adds_20 : decode cX12_adds 20 = .ok (.aload_n 0, 1) := dB_3_0_23.2.2.1.1
theorem dX12_adds_21 : decode cX12_adds 21 = .ok (.getfield 16, 3) := dB_3_0_23.2.2.1.2
theorem dX12_adds_24 : decode cX12_adds 24 = .ok (.aload_n 0, 1) := dB_3_0_23.2.2.2.1
theorem dX12_adds_25 : decode cX12_adds 25 = .ok (.getfield 95, 3) := dB_3_0_23.2.2.2.2
theorem dB_3_0_24 : ((((decode cX12_adds 28 = .ok (.iload_n 3, 1)) ∧ (decode cX12_adds 29 = .ok (.iastore, 1))) ∧ ((decode cX12_adds 30 = .ok (.aload_n 0, 1)) ∧ (decode cX12_adds 31 = .ok (.getfield 19, 3)))) ∧ (((decode cX12_adds 34 = .ok (.aload_n 0, 1)) ∧ (decode cX12_adds 35 = .ok (.getfield 95, 3))) ∧ ((decode cX12_adds 38 = .ok (.iload_n 1, 1)) ∧ (decode cX12_adds 39 = .ok (.iconst 4, 1))))) ∧ ((((decode cX12_adds 40 = .ok (.if_icmp .ne 7, 3)) ∧ (decode cX12_adds 43 = .ok (.iconst 0, 1))) ∧ ((decode cX12_adds 44 = .ok (.goto 5, 3)) ∧ (decode cX12_adds 47 = .ok (.iload 4, 2)))) ∧ (((decode cX12_adds 49 = .ok (.iastore, 1)) ∧ (decode cX12_adds 50 = .ok (.aload_n 0, 1))) ∧ ((decode cX12_adds 51 = .ok (.getfield 22, 3)) ∧ (decode cX12_adds 54 = .ok (.aload_n 0, 1))))) := by first | decide +kernel | ((repeat' apply And.intro) <;> decide +kernel)
theorem dX12_adds_28 : decode cX12_adds 28 = .ok (.iload_n 3, 1) := dB_3_0_24.1.1.1.1
theorem dX12_adds_29 : decode cX12_adds 29 = .ok (.iastore, 1) := dB_3_0_24.1.1.1.2
theorem dX12_adds_30 : decode cX12_adds 30 = .ok (.aload_n 0, 1) := dB_3_0_24.1.1.2.1
theorem dX12_adds_31 : decode cX12_adds 31 = .ok (.getfield 19, 3) := dB_3_0_24.1.1.2.2
theorem dX12_adds_34 : decode cX12_adds 34 = .ok (.aload_n 0, 1) := dB_3_0_24.1.2.1.1
theorem dX12_adds_35 : decode cX12_adds 35 = .ok (.getfield 95, 3) := dB_3_0_24.1.2.1.2
theorem dX12_adds_38 : decode cX12_adds 38 = .ok (.iload_n 1, 1) := dB_3_0_24.1.2.2.1
theorem dX12_adds_39 : decode cX12_adds 39 = .ok (.iconst 4, 1) := dB_3_0_24.1.2.2.2
theorem dX12_adds_40 : decode cX12_adds 40 = .ok (.if_icmp .ne 7, 3) := dB_3_0_24.2.1.1.1
theorem dX12_adds_43 : decode cX12_adds 43 = .ok (.iconst 0, 1) := dB_3_0_24.2.1.1.2
theorem dX12_adds_44 : decode cX12_adds 44 = .ok (.goto 5, 3) := dB_3_0_24.2.1.2.1
theorem dX12_adds_47 : decode cX12_adds 47 = .ok (.iload 4, 2) := dB_3_0_24.2.1.2.2
theorem dX12_adds_49 : decode cX12_adds 49 = .ok (.iastore, 1) := dB_3_0_24.2.2.1.1
theorem dX12_adds_50 : decode cX12_adds 50 = .ok (.aload_n 0, 1) := dB_3_0_24.2.2.1.2
theorem dX12_adds_51 : decode cX12_adds 51 = .ok (.getfield 22, 3) := dB_3_0_24.2.2.2.1
theorem dX12_adds_54 : decode cX12_adds 54 = .ok (.aload_n 0, 1) := dB_3_0_24.2.2.2.2
theorem dB_3_0_25 : ((((decode cX12_adds 55 = .ok (.getfield 95, 3)) ∧ (decode cX12_adds 58 = .ok (.iload 5, 2))) ∧ ((decode cX12_adds 60 = .ok (.iastore, 1)) ∧ (decode cX12_adds 61 = .ok (.aload_n 0, 1)))) ∧ (((decode cX12_adds 62 = .ok (.getfield 25, 3)) ∧ (decode cX12_adds 65 = .ok (.aload_n 0, 1))) ∧ ((decode cX12_adds 66 = .ok (.getfield 95, 3)) ∧ (decode cX12_adds 69 = .ok (.iconst 0, 1))))) ∧ ((((decode cX12_adds 70 = .ok (.bastore, 1)) ∧ (decode cX12_adds 71 = .ok (.aload_n 0, 1))) ∧ ((decode cX12_adds 72 = .ok (.dup, 1)) ∧ (decode cX12_adds 73 = .ok (.getfield 114, 3)))) ∧ (((decode cX12_adds 76 = .ok (.iload_n 1, 1)) ∧ (decode cX12_adds 77 = .ok (.iconst 4, 1))) ∧ ((decode cX12_adds 78 = .ok (.if_icmp .ne 9, 3)) ∧ (decode cX12_adds 81 = .ok (.ldc2_w 118, 3))))) := by first | decide +kernel | ((repeat' apply And.intro) <;> decide +kernel)
theorem dX12_adds_55 : decode cX12_adds 55 = .ok (.getfield 95, 3) := dB_3_0_25.1.1.1.1
theorem dX12_adds_58 : decode cX12_adds 58 = .ok (.iload 5, 2) := dB_3_0_25.1.1.1.2
theorem dX12_adds_60 : decode cX12_adds 60 = .ok (.iastore, 1) := dB_3_0_25.1.1.2.1
theorem dX12_adds_61 : decode cX12_adds 61 = .ok (.aload_n 0, 1) := dB_3_0_25.1.1.2.2
theorem dX12_adds_62 : decode cX12_adds 62 = .ok (.getfield 25, 3) := dB_3_0_25.1.2.1.1
theorem dX12_adds_65 : decode cX12_adds 65 = .ok (.aload_n 0, 1) := dB_3_0_25.1.2.1.2
theorem dX12_adds_66 : decode cX12_adds 66 = .ok (.getfield 95, 3) := dB_3_0_25.1.2.2.1
theorem dX12_adds_69 : decode cX12_adds 69 = .ok (.iconst 0, 1) := dB_3_0_25.1.2.2.2
theorem dX12_adds_70 : decode cX12_adds 70 = .ok (.bastore, 1) := dB_3_0_25.2.1.1.1
theorem dX12_adds_71 : decode cX12_adds 71 = .ok (.aload_n 0, 1) := dB_3_0_25.2.1.1.2
theorem dX12_adds_72 : decode cX12_adds 72 = .ok (.dup, 1) := dB_3_0_25.2.1.2.1
theorem dX12_adds_73 : decode cX12_adds 73 = .ok (.getfield 114, 3) := dB_3_0_25.2.1.2.2
theorem dX12_adds_76 : decode cX12_adds 76 = .ok (.iload_n 1, 1) := dB_3_0_25.2.2.1.1
theorem dX12_adds_77 : decode cX12_adds 77 = .ok (.iconst 4, 1) := dB_3_0_25.2.2.1.2
theorem dX12_adds_78 : decode cX12_adds 78 = .ok (.if_icmp .ne 9, 3) := dB_3_0_25.2.2.2.1
theorem dX12_adds_81 : decode cX12_adds 81 = .ok (.ldc2_w 118, 3) := dB_3_0_25.2.2.2.2
theorem dB_3_0_26 : ((((decode cX12_adds 84 = .ok (.goto 4, 3)) ∧ (decode cX12_adds 87 = .ok (.lconst 0, 1))) ∧ ((decode cX12_adds 88 = .ok (.ladd, 1)) ∧ (decode cX12_adds 89 = .ok (.putfield 114, 3)))) ∧ (((decode cX12_adds 92 = .ok (.aload_n 0, 1)) ∧ (decode cX12_adds 93 = .ok (.dup, 1))) ∧ ((decode cX12_adds 94 = .ok (.getfield 95, 3)) ∧ (decode cX12_adds 97 = .ok (.iconst 1, 1))))) ∧ ((((decode cX12_adds 98 = .ok (.iadd, 1)) ∧ (decode cX12_adds 99 = .ok (.putfield 95, 3))) ∧ ((decode cX12_adds 102 = .ok (.return_, 1)) ∧ (decode cX12_line 0 = .ok (.aload_n 0, 1)))) ∧ (((decode cX12_line 1 = .ok (.iconst 0, 1)) ∧ (decode cX12_line 2 = .ok (.putfield 85, 3))) ∧ ((decode cX12_line 5 = .ok (.aload_n 0, 1)) ∧ (decode cX12_line 6 = .ok (.iload_n 1, 1))))) := by first | decide +kernel | ((repeat' apply And.intro) <;> decide +kernel)
theorem dX12_adds_84 : decode cX12_adds 84 = .ok (.goto 4, 3) := dB_3_0_26.1.1.1.1
theorem dX12_adds_87 : decode cX12_adds 87 = .ok (.lconst 0, 1) := dB_3_0_26.1.1.1.2
theorem dX12_adds_88 : decode cX12_adds 88 = .ok (.ladd, 1) := dB_3_0_26.1.1.2.1
theorem dX12_adds_89 : decode cX12_adds 89 = .ok (.putfield 114, 3) := dB_3_0_26.1.1.2.2
theorem dX12_adds_92 : decode cX12_adds 92 = .ok (.aload_n 0, 1) := dB_3_0_26.1.2.1.1
theorem dX12_adds_93 : decode cX12_adds 93 = .ok (.dup, 1) := dB_3_0_26.1.2.1.2
theorem dX12_adds_94 : decode cX12_adds 94 = .ok (.getfield 95, 3) := dB_3_0_26.1.2.2.1
theorem dX12_adds_97 : decode cX12_adds 97 = .ok (.iconst 1, 1) := dB_3_0_26.1.2.2.2
theorem dX12_adds_98 : decode cX12_adds 98 = .ok (.iadd, 1) := dB_3_0_26.2.1.1.1
theorem dX12_adds_99 : decode cX12_adds 99 = .ok (.putfield 95, 3) := dB_3_0_26.2.1.1.2
theorem dX12_adds_102 : decode cX12_adds 102 = .ok (.return_, 1) := dB_3_0_26.2.1.2.1
theorem dX12_line_0 : decode cX12_line 0 = .ok (.aload_n 0, 1) := dB_3_0_26.2.1.2.2
theorem dX12_line_1 : decode cX12_line 1 = .ok (.iconst 0, 1) := dB_3_0_26.2.2.1.1
theorem dX12_line_2 : decode cX12_line 2 = .ok (.putfield 85, 3) := dB_3_0_26.2.2.1.2
theorem dX12_line_5 : decode cX12_line 5 = .ok (.aload_n 0, 1) := dB_3_0_26.2.2.2.1
theorem dX12_line_6 : decode cX12_line 6 = .ok (.iload_n 1, 1) := dB_3_0_26.2.2.2.2
theorem dB_3_0_27 : ((((decode cX12_line 7 = .ok (.i2l, 1)) ∧ (decode cX12_line 8 = .ok (.iload_n 2, 1))) ∧ ((decode cX12_line 9 = .ok (.i2l, 1)) ∧ (decode cX12_line 10 = .ok (.iload_n 3, 1)))) ∧ (((decode cX12_line 11 = .ok (.i2l, 1)) ∧ (decode cX12_line 12 = .ok (.iload 4, 2))) ∧ ((decode cX12_line 14 = .ok (.i2l, 1)) ∧ (decode cX12_line 15 = .ok (.iload 5, 2))))) ∧ ((((decode cX12_line 17 = .ok (.i2l, 1)) ∧ (decode cX12_line 18 = .ok (.invokevirtual 120, 3))) ∧ ((decode cX12_line 21 = .ok (.istore 6, 2)) ∧ (decode cX12_line 23 = .ok (.iload 6, 2)))) ∧ (((decode cX12_line 25 = .ok (.ifCond .ge 6, 3)) ∧ (decode cX12_line 28 = .ok (.iload 6, 2))) ∧ ((decode cX12_line 30 = .ok (.ireturn, 1)) ∧ (decode cX12_line 31 = .ok (.aload_n 0, 1))))) := by first | decide +kernel | ((repeat' apply And.intro) <;> decide +kernel)
theorem dX12_line_7 : decode cX12_line 7 = .ok (.i2l, 1) := dB_3_0_27.1.1.1.1
theorem dX12_line_8 : decode cX12_line 8 = .ok (.iload_n 2, 1) := dB_3_0_27.1.1.1.2
theorem dX12_line_9 : decode cX12_line 9 = .ok (.i2l, 1) := dB_3_0_27.1.1.2.1
theorem dX12_line_10 : decode cX12_line 10 = .ok (.iload_n 3, 1) := dB_3_0_27.1.1.2.2
theorem dX12_line_11 : decode cX12_line 11 = .ok (.i2l, 1) := dB_3_0_27.1.2.1.1
theorem dX12_line_12 : decode cX12_line 12 = .ok (.iload 4, 2) := dB_3_0_27.1.2.1.2
theorem dX12_line_14 : decode cX12_line 14 = .ok (.i2l, 1) := dB_3_0_27.1.2.2.1
theorem dX12_line_15 : decode cX12_line 15 = .ok (.iload 5, 2) := dB_3_0_27.1.2.2.2
theorem dX12_line_17 : decode cX12_line 17 = .ok (.i2l, 1) := dB_3_0_27.2.1.1.1
theorem dX12_line_18 : decode cX12_line 18 = .ok (.invokevirtual 120, 3) := dB_3_0_27.2.1.1.2
theorem dX12_line_21 : decode cX12_line 21 = .ok (.istore 6, 2) := dB_3_0_27.2.1.2.1
theorem dX12_line_23 : decode cX12_line 23 = .ok (.iload 6, 2) := dB_3_0_27.2.1.2.2
theorem dX12_line_25 : decode cX12_line 25 = .ok (.ifCond .ge 6, 3) := dB_3_0_27.2.2.1.1
theorem dX12_line_28 : decode cX12_line 28 = .ok (.iload 6, 2) := dB_3_0_27.2.2.1.2
theorem dX12_line_30 : decode cX12_line 30 = .ok (.ireturn, 1) := dB_3_0_27.2.2.2.1
theorem dX12_line_31 : decode cX12_line 31 = .ok (.aload_n 0, 1) := dB_3_0_27.2.2.2.2
theorem dB_3_0_28 : ((((decode cX12_line 32 = .ok (.invokevirtual 105, 3)) ∧ (decode cX12_line 35 = .ok (.aload_n 0, 1))) ∧ ((decode cX12_line 36 = .ok (.iload_n 1, 1)) ∧ (decode cX12_line 37 = .ok (.iload_n 2, 1)))) ∧ (((decode cX12_line 38 = .ok (.iload_n 3, 1)) ∧ (decode cX12_line 39 = .ok (.iload 4, 2))) ∧ ((decode cX12_line 41 = .ok (.iload 5, 2)) ∧ (decode cX12_line 43 = .ok (.invokevirtual 124, 3))))) ∧ ((((decode cX12_line 46 = .ok (.aload_n 0, 1)) ∧ (decode cX12_line 47 = .ok (.getfield 95, 3))) ∧ ((decode cX12_line 50 = .ok (.iconst 1, 1)) ∧ (decode cX12_line 51 = .ok (.isub, 1)))) ∧ (((decode cX12_line 52 = .ok (.ireturn, 1)) ∧ (decode cX12_costs 0 = .ok (.aload_n 0, 1))) ∧ ((decode cX12_costs 1 = .ok (.getfield 7, 3)) ∧ (decode cX12_costs 4 = .ok (.iload_n 1, 1))))) := by first | decide +kernel | ((repeat' apply And.intro) <;> decide +kernel)
theorem dX12_line_32 : decode cX12_line 32 = .ok (.invokevirtual 105, 3) := dB_3_0_28.1.1.1.1
theorem dX12_line_35 : decode cX12_line 35 = .ok (.aload_n 0, 1) := dB_3_0_28.1.1.1.2
theorem dX12_line_36 : decode cX12_line 36 = .ok (.iload_n 1, 1) := dB_3_0_28.1.1.2.1
theorem dX12_line_37 : decode cX12_line 37 = .ok (.iload_n 2, 1) := dB_3_0_28.1.1.2.2
theorem dX12_line_38 : decode cX12_line 38 = .ok (.iload_n 3, 1) := dB_3_0_28.1.2.1.1
theorem dX12_line_39 : decode cX12_line 39 = .ok (.iload 4, 2) := dB_3_0_28.1.2.1.2
theorem dX12_line_41 : decode cX12_line 41 = .ok (.iload 5, 2) := dB_3_0_28.1.2.2.1
theorem dX12_line_43 : decode cX12_line 43 = .ok (.invokevirtual 124, 3) := dB_3_0_28.1.2.2.2
theorem dX12_line_46 : decode cX12_line 46 = .ok (.aload_n 0, 1) := dB_3_0_28.2.1.1.1
theorem dX12_line_47 : decode cX12_line 47 = .ok (.getfield 95, 3) := dB_3_0_28.2.1.1.2
theorem dX12_line_50 : decode cX12_line 50 = .ok (.iconst 1, 1) := dB_3_0_28.2.1.2.1
theorem dX12_line_51 : decode cX12_line 51 = .ok (.isub, 1) := dB_3_0_28.2.1.2.2
theorem dX12_line_52 : decode cX12_line 52 = .ok (.ireturn, 1) := dB_3_0_28.2.2.1.1
theorem dX12_costs_0 : decode cX12_costs 0 = .ok (.aload_n 0, 1) := dB_3_0_28.2.2.1.2
theorem dX12_costs_1 : decode cX12_costs 1 = .ok (.getfield 7, 3) := dB_3_0_28.2.2.2.1
theorem dX12_costs_4 : decode cX12_costs 4 = .ok (.iload_n 1, 1) := dB_3_0_28.2.2.2.2
theorem dB_3_0_29 : ((((decode cX12_costs 5 = .ok (.iaload, 1)) ∧ (decode cX12_costs 6 = .ok (.iconst 3, 1))) ∧ ((decode cX12_costs 7 = .ok (.if_icmp .ne 12, 3)) ∧ (decode cX12_costs 10 = .ok (.aload_n 0, 1)))) ∧ (((decode cX12_costs 11 = .ok (.getfield 22, 3)) ∧ (decode cX12_costs 14 = .ok (.iload_n 1, 1))) ∧ ((decode cX12_costs 15 = .ok (.iaload, 1)) ∧ (decode cX12_costs 16 = .ok (.goto 26, 3))))) ∧ ((((decode cX12_costs 19 = .ok (.aload_n 0, 1)) ∧ (decode cX12_costs 20 = .ok (.getfield 7, 3))) ∧ ((decode cX12_costs 23 = .ok (.iload_n 1, 1)) ∧ (decode cX12_costs 24 = .ok (.iaload, 1)))) ∧ (((decode cX12_costs 25 = .ok (.iconst 4, 1)) ∧ (decode cX12_costs 26 = .ok (.if_icmp .ne 14, 3))) ∧ ((decode cX12_costs 29 = .ok (.aload_n 0, 1)) ∧ (decode cX12_costs 30 = .ok (.getfield 22, 3))))) := by first | decide +kernel | ((repeat' apply And.intro) <;> decide +kernel)
theorem dX12_costs_5 : decode cX12_costs 5 = .ok (.iaload, 1) := dB_3_0_29.1.1.1.1
theorem dX12_costs_6 : decode cX12_costs 6 = .ok (.iconst 3, 1) := dB_3_0_29.1.1.1.2
theorem dX12_costs_7 : decode cX12_costs 7 = .ok (.if_icmp .ne 12, 3) := dB_3_0_29.1.1.2.1
theorem dX12_costs_10 : decode cX12_costs 10 = .ok (.aload_n 0, 1) := dB_3_0_29.1.1.2.2
theorem dX12_costs_11 : decode cX12_costs 11 = .ok (.getfield 22, 3) := dB_3_0_29.1.2.1.1
theorem dX12_costs_14 : decode cX12_costs 14 = .ok (.iload_n 1, 1) := dB_3_0_29.1.2.1.2
theorem dX12_costs_15 : decode cX12_costs 15 = .ok (.iaload, 1) := dB_3_0_29.1.2.2.1
theorem dX12_costs_16 : decode cX12_costs 16 = .ok (.goto 26, 3) := dB_3_0_29.1.2.2.2
theorem dX12_costs_19 : decode cX12_costs 19 = .ok (.aload_n 0, 1) := dB_3_0_29.2.1.1.1
theorem dX12_costs_20 : decode cX12_costs 20 = .ok (.getfield 7, 3) := dB_3_0_29.2.1.1.2
theorem dX12_costs_23 : decode cX12_costs 23 = .ok (.iload_n 1, 1) := dB_3_0_29.2.1.2.1
theorem dX12_costs_24 : decode cX12_costs 24 = .ok (.iaload, 1) := dB_3_0_29.2.1.2.2
theorem dX12_costs_25 : decode cX12_costs 25 = .ok (.iconst 4, 1) := dB_3_0_29.2.2.1.1
theorem dX12_costs_26 : decode cX12_costs 26 = .ok (.if_icmp .ne 14, 3) := dB_3_0_29.2.2.1.2
theorem dX12_costs_29 : decode cX12_costs 29 = .ok (.aload_n 0, 1) := dB_3_0_29.2.2.2.1
theorem dX12_costs_30 : decode cX12_costs 30 = .ok (.getfield 22, 3) := dB_3_0_29.2.2.2.2
theorem dB_3_0_30 : ((((decode cX12_costs 33 = .ok (.iload_n 1, 1)) ∧ (decode cX12_costs 34 = .ok (.iaload, 1))) ∧ ((decode cX12_costs 35 = .ok (.iconst 1, 1)) ∧ (decode cX12_costs 36 = .ok (.iadd, 1)))) ∧ (((decode cX12_costs 37 = .ok (.goto 5, 3)) ∧ (decode cX12_costs 40 = .ok (.bipush (-9), 2))) ∧ ((decode cX12_costs 42 = .ok (.ireturn, 1)) ∧ (decode cX12_costsTrace 0 = .ok (.aload_n 0, 1))))) ∧ ((((decode cX12_costsTrace 1 = .ok (.getfield 7, 3)) ∧ (decode cX12_costsTrace 4 = .ok (.iload_n 1, 1))) ∧ ((decode cX12_costsTrace 5 = .ok (.iaload, 1)) ∧ (decode cX12_costsTrace 6 = .ok (.iconst 3, 1)))) ∧ (((decode cX12_costsTrace 7 = .ok (.if_icmp .ne 9, 3)) ∧ (decode cX12_costsTrace 10 = .ok (.ldc2_w 128, 3))) ∧ ((decode cX12_costsTrace 13 = .ok (.goto 22, 3)) ∧ (decode cX12_costsTrace 16 = .ok (.aload_n 0, 1))))) := by first | decide +kernel | ((repeat' apply And.intro) <;> decide +kernel)
theorem dX12_costs_33 : decode cX12_costs 33 = .ok (.iload_n 1, 1) := dB_3_0_30.1.1.1.1
theorem dX12_costs_34 : decode cX12_costs 34 = .ok (.iaload, 1) := dB_3_0_30.1.1.1.2
theorem dX12_costs_35 : decode cX12_costs 35 = .ok (.iconst 1, 1) := dB_3_0_30.1.1.2.1
theorem dX12_costs_36 : decode cX12_costs 36 = .ok (.iadd, 1) := dB_3_0_30.1.1.2.2
theorem dX12_costs_37 : decode cX12_costs 37 = .ok (.goto 5, 3) := dB_3_0_30.1.2.1.1
theorem dX12_costs_40 : decode cX12_costs 40 = .ok (.bipush (-9), 2) := dB_3_0_30.1.2.1.2
theorem dX12_costs_42 : decode cX12_costs 42 = .ok (.ireturn, 1) := dB_3_0_30.1.2.2.1
theorem dX12_costsTrace_0 : decode cX12_costsTrace 0 = .ok (.aload_n 0, 1) := dB_3_0_30.1.2.2.2
theorem dX12_costsTrace_1 : decode cX12_costsTrace 1 = .ok (.getfield 7, 3) := dB_3_0_30.2.1.1.1
theorem dX12_costsTrace_4 : decode cX12_costsTrace 4 = .ok (.iload_n 1, 1) := dB_3_0_30.2.1.1.2
theorem dX12_costsTrace_5 : decode cX12_costsTrace 5 = .ok (.iaload, 1) := dB_3_0_30.2.1.2.1
theorem dX12_costsTrace_6 : decode cX12_costsTrace 6 = .ok (.iconst 3, 1) := dB_3_0_30.2.1.2.2
theorem dX12_costsTrace_7 : decode cX12_costsTrace 7 = .ok (.if_icmp .ne 9, 3) := dB_3_0_30.2.2.1.1
theorem dX12_costsTrace_10 : decode cX12_costsTrace 10 = .ok (.ldc2_w 128, 3) := dB_3_0_30.2.2.1.2
theorem dX12_costsTrace_13 : decode cX12_costsTrace 13 = .ok (.goto 22, 3) := dB_3_0_30.2.2.2.1
theorem dX12_costsTrace_16 : decode cX12_costsTrace 16 = .ok (.aload_n 0, 1) := dB_3_0_30.2.2.2.2
theorem dB_3_0_31 : ((((decode cX12_costsTrace 17 = .ok (.getfield 7, 3)) ∧ (decode cX12_costsTrace 20 = .ok (.iload_n 1, 1))) ∧ ((decode cX12_costsTrace 21 = .ok (.iaload, 1)) ∧ (decode cX12_costsTrace 22 = .ok (.iconst 4, 1)))) ∧ (((decode cX12_costsTrace 23 = .ok (.if_icmp .ne 9, 3)) ∧ (decode cX12_costsTrace 26 = .ok (.ldc2_w 130, 3))) ∧ ((decode cX12_costsTrace 29 = .ok (.goto 6, 3)) ∧ (decode cX12_costsTrace 32 = .ok (.ldc2_w 110, 3))))) ∧ ((((decode cX12_costsTrace 35 = .ok (.lreturn, 1)) ∧ (decode cX12_widen 0 = .ok (.aload_n 0, 1))) ∧ ((decode cX12_widen 1 = .ok (.iconst 0, 1)) ∧ (decode cX12_widen 2 = .ok (.putfield 85, 3)))) ∧ (((decode cX12_widen 5 = .ok (.aload_n 0, 1)) ∧ (decode cX12_widen 6 = .ok (.iload_n 1, 1))) ∧ ((decode cX12_widen 7 = .ok (.invokevirtual 132, 3)) ∧ (decode cX12_widen 10 = .ok (.ifCond .eq 15, 3))))) := by first | decide +kernel | ((repeat' apply And.intro) <;> decide +kernel)
theorem dX12_costsTrace_17 : decode cX12_costsTrace 17 = .ok (.getfield 7, 3) := dB_3_0_31.1.1.1.1
theorem dX12_costsTrace_20 : decode cX12_costsTrace 20 = .ok (.iload_n 1, 1) := dB_3_0_31.1.1.1.2
theorem dX12_costsTrace_21 : decode cX12_costsTrace 21 = .ok (.iaload, 1) := dB_3_0_31.1.1.2.1
theorem dX12_costsTrace_22 : decode cX12_costsTrace 22 = .ok (.iconst 4, 1) := dB_3_0_31.1.1.2.2
theorem dX12_costsTrace_23 : decode cX12_costsTrace 23 = .ok (.if_icmp .ne 9, 3) := dB_3_0_31.1.2.1.1
theorem dX12_costsTrace_26 : decode cX12_costsTrace 26 = .ok (.ldc2_w 130, 3) := dB_3_0_31.1.2.1.2
theorem dX12_costsTrace_29 : decode cX12_costsTrace 29 = .ok (.goto 6, 3) := dB_3_0_31.1.2.2.1
theorem dX12_costsTrace_32 : decode cX12_costsTrace 32 = .ok (.ldc2_w 110, 3) := dB_3_0_31.1.2.2.2
theorem dX12_costsTrace_35 : decode cX12_costsTrace 35 = .ok (.lreturn, 1) := dB_3_0_31.2.1.1.1
theorem dX12_widen_0 : decode cX12_widen 0 = .ok (.aload_n 0, 1) := dB_3_0_31.2.1.1.2
theorem dX12_widen_1 : decode cX12_widen 1 = .ok (.iconst 0, 1) := dB_3_0_31.2.1.2.1
theorem dX12_widen_2 : decode cX12_widen 2 = .ok (.putfield 85, 3) := dB_3_0_31.2.1.2.2
theorem dX12_widen_5 : decode cX12_widen 5 = .ok (.aload_n 0, 1) := dB_3_0_31.2.2.1.1
theorem dX12_widen_6 : decode cX12_widen 6 = .ok (.iload_n 1, 1) := dB_3_0_31.2.2.1.2
theorem dX12_widen_7 : decode cX12_widen 7 = .ok (.invokevirtual 132, 3) := dB_3_0_31.2.2.2.1
theorem dX12_widen_10 : decode cX12_widen 10 = .ok (.ifCond .eq 15, 3) := dB_3_0_31.2.2.2.2
theorem dB_3_0_32 : ((((decode cX12_widen 13 = .ok (.iload_n 2, 1)) ∧ (decode cX12_widen 14 = .ok (.i2l, 1))) ∧ ((decode cX12_widen 15 = .ok (.lconst 0, 1)) ∧ (decode cX12_widen 16 = .ok (.ldc2_w 110, 3)))) ∧ (((decode cX12_widen 19 = .ok (.invokestatic 91, 3)) ∧ (decode cX12_widen 22 = .ok (.ifCond .ne 5, 3))) ∧ ((decode cX12_widen 25 = .ok (.iconst (-1), 1)) ∧ (decode cX12_widen 26 = .ok (.ireturn, 1))))) ∧ ((((decode cX12_widen 27 = .ok (.aload_n 0, 1)) ∧ (decode cX12_widen 28 = .ok (.iload_n 1, 1))) ∧ ((decode cX12_widen 29 = .ok (.invokevirtual 135, 3)) ∧ (decode cX12_widen 32 = .ok (.bipush (-9), 2)))) ∧ (((decode cX12_widen 34 = .ok (.if_icmp .eq 26, 3)) ∧ (decode cX12_widen 37 = .ok (.aload_n 0, 1))) ∧ ((decode cX12_widen 38 = .ok (.getfield 25, 3)) ∧ (decode cX12_widen 41 = .ok (.iload_n 1, 1))))) := by first | decide +kernel | ((repeat' apply And.intro) <;> decide +kernel)
theorem dX12_widen_13 : decode cX12_widen 13 = .ok (.iload_n 2, 1) := dB_3_0_32.1.1.1.1
theorem dX12_widen_14 : decode cX12_widen 14 = .ok (.i2l, 1) := dB_3_0_32.1.1.1.2
theorem dX12_widen_15 : decode cX12_widen 15 = .ok (.lconst 0, 1) := dB_3_0_32.1.1.2.1
theorem dX12_widen_16 : decode cX12_widen 16 = .ok (.ldc2_w 110, 3) := dB_3_0_32.1.1.2.2
theorem dX12_widen_19 : decode cX12_widen 19 = .ok (.invokestatic 91, 3) := dB_3_0_32.1.2.1.1
theorem dX12_widen_22 : decode cX12_widen 22 = .ok (.ifCond .ne 5, 3) := dB_3_0_32.1.2.1.2
theorem dX12_widen_25 : decode cX12_widen 25 = .ok (.iconst (-1), 1) := dB_3_0_32.1.2.2.1
theorem dX12_widen_26 : decode cX12_widen 26 = .ok (.ireturn, 1) := dB_3_0_32.1.2.2.2
theorem dX12_widen_27 : decode cX12_widen 27 = .ok (.aload_n 0, 1) := dB_3_0_32.2.1.1.1
theorem dX12_widen_28 : decode cX12_widen 28 = .ok (.iload_n 1, 1) := dB_3_0_32.2.1.1.2
theorem dX12_widen_29 : decode cX12_widen 29 = .ok (.invokevirtual 135, 3) := dB_3_0_32.2.1.2.1
theorem dX12_widen_32 : decode cX12_widen 32 = .ok (.bipush (-9), 2) := dB_3_0_32.2.1.2.2
theorem dX12_widen_34 : decode cX12_widen 34 = .ok (.if_icmp .eq 26, 3) := dB_3_0_32.2.2.1.1
theorem dX12_widen_37 : decode cX12_widen 37 = .ok (.aload_n 0, 1) := dB_3_0_32.2.2.1.2
theorem dX12_widen_38 : decode cX12_widen 38 = .ok (.getfield 25, 3) := dB_3_0_32.2.2.2.1
theorem dX12_widen_41 : decode cX12_widen 41 = .ok (.iload_n 1, 1) := dB_3_0_32.2.2.2.2
theorem dB_3_0_33 : ((((decode cX12_widen 42 = .ok (.baload, 1)) ∧ (decode cX12_widen 43 = .ok (.ifCond .ne 17, 3))) ∧ ((decode cX12_widen 46 = .ok (.aload_n 0, 1)) ∧ (decode cX12_widen 47 = .ok (.getfield 19, 3)))) ∧ (((decode cX12_widen 50 = .ok (.iload_n 1, 1)) ∧ (decode cX12_widen 51 = .ok (.iaload, 1))) ∧ ((decode cX12_widen 52 = .ok (.iload_n 2, 1)) ∧ (decode cX12_widen 53 = .ok (.iadd, 1))))) ∧ ((((decode cX12_widen 54 = .ok (.sipush 2000, 3)) ∧ (decode cX12_widen 57 = .ok (.if_icmp .le 6, 3))) ∧ ((decode cX12_widen 60 = .ok (.bipush (-2), 2)) ∧ (decode cX12_widen 62 = .ok (.ireturn, 1)))) ∧ (((decode cX12_widen 63 = .ok (.aload_n 0, 1)) ∧ (decode cX12_widen 64 = .ok (.invokevirtual 105, 3))) ∧ ((decode cX12_widen 67 = .ok (.aload_n 0, 1)) ∧ (decode cX12_widen 68 = .ok (.dup, 1))))) := by first | decide +kernel | ((repeat' apply And.intro) <;> decide +kernel)
theorem dX12_widen_42 : decode cX12_widen 42 = .ok (.baload, 1) := dB_3_0_33.1.1.1.1
theorem dX12_widen_43 : decode cX12_widen 43 = .ok (.ifCond .ne 17, 3) := dB_3_0_33.1.1.1.2
theorem dX12_widen_46 : decode cX12_widen 46 = .ok (.aload_n 0, 1) := dB_3_0_33.1.1.2.1
theorem dX12_widen_47 : decode cX12_widen 47 = .ok (.getfield 19, 3) := dB_3_0_33.1.1.2.2
theorem dX12_widen_50 : decode cX12_widen 50 = .ok (.iload_n 1, 1) := dB_3_0_33.1.2.1.1
theorem dX12_widen_51 : decode cX12_widen 51 = .ok (.iaload, 1) := dB_3_0_33.1.2.1.2
theorem dX12_widen_52 : decode cX12_widen 52 = .ok (.iload_n 2, 1) := dB_3_0_33.1.2.2.1
theorem dX12_widen_53 : decode cX12_widen 53 = .ok (.iadd, 1) := dB_3_0_33.1.2.2.2
theorem dX12_widen_54 : decode cX12_widen 54 = .ok (.sipush 2000, 3) := dB_3_0_33.2.1.1.1
theorem dX12_widen_57 : decode cX12_widen 57 = .ok (.if_icmp .le 6, 3) := dB_3_0_33.2.1.1.2
theorem dX12_widen_60 : decode cX12_widen 60 = .ok (.bipush (-2), 2) := dB_3_0_33.2.1.2.1
theorem dX12_widen_62 : decode cX12_widen 62 = .ok (.ireturn, 1) := dB_3_0_33.2.1.2.2
theorem dX12_widen_63 : decode cX12_widen 63 = .ok (.aload_n 0, 1) := dB_3_0_33.2.2.1.1
theorem dX12_widen_64 : decode cX12_widen 64 = .ok (.invokevirtual 105, 3) := dB_3_0_33.2.2.1.2
theorem dX12_widen_67 : decode cX12_widen 67 = .ok (.aload_n 0, 1) := dB_3_0_33.2.2.2.1
theorem dX12_widen_68 : decode cX12_widen 68 = .ok (.dup, 1) := dB_3_0_33.2.2.2.2
theorem dB_3_0_34 : ((((decode cX12_widen 69 = .ok (.getfield 114, 3)) ∧ (decode cX12_widen 72 = .ok (.aload_n 0, 1))) ∧ ((decode cX12_widen 73 = .ok (.iload_n 1, 1)) ∧ (decode cX12_widen 74 = .ok (.invokevirtual 139, 3)))) ∧ (((decode cX12_widen 77 = .ok (.ladd, 1)) ∧ (decode cX12_widen 78 = .ok (.putfield 114, 3))) ∧ ((decode cX12_widen 81 = .ok (.aload_n 0, 1)) ∧ (decode cX12_widen 82 = .ok (.getfield 19, 3))))) ∧ ((((decode cX12_widen 85 = .ok (.iload_n 1, 1)) ∧ (decode cX12_widen 86 = .ok (.dup2, 1))) ∧ ((decode cX12_widen 87 = .ok (.iaload, 1)) ∧ (decode cX12_widen 88 = .ok (.iload_n 2, 1)))) ∧ (((decode cX12_widen 89 = .ok (.iadd, 1)) ∧ (decode cX12_widen 90 = .ok (.iastore, 1))) ∧ ((decode cX12_widen 91 = .ok (.iload_n 2, 1)) ∧ (decode cX12_widen 92 = .ok (.aload_n 0, 1))))) := by first | decide +kernel | ((repeat' apply And.intro) <;> decide +kernel)
theorem dX12_widen_69 : decode cX12_widen 69 = .ok (.getfield 114, 3) := dB_3_0_34.1.1.1.1
theorem dX12_widen_72 : decode cX12_widen 72 = .ok (.aload_n 0, 1) := dB_3_0_34.1.1.1.2
theorem dX12_widen_73 : decode cX12_widen 73 = .ok (.iload_n 1, 1) := dB_3_0_34.1.1.2.1
theorem dX12_widen_74 : decode cX12_widen 74 = .ok (.invokevirtual 139, 3) := dB_3_0_34.1.1.2.2
theorem dX12_widen_77 : decode cX12_widen 77 = .ok (.ladd, 1) := dB_3_0_34.1.2.1.1
theorem dX12_widen_78 : decode cX12_widen 78 = .ok (.putfield 114, 3) := dB_3_0_34.1.2.1.2
theorem dX12_widen_81 : decode cX12_widen 81 = .ok (.aload_n 0, 1) := dB_3_0_34.1.2.2.1
theorem dX12_widen_82 : decode cX12_widen 82 = .ok (.getfield 19, 3) := dB_3_0_34.1.2.2.2
theorem dX12_widen_85 : decode cX12_widen 85 = .ok (.iload_n 1, 1) := dB_3_0_34.2.1.1.1
theorem dX12_widen_86 : decode cX12_widen 86 = .ok (.dup2, 1) := dB_3_0_34.2.1.1.2
theorem dX12_widen_87 : decode cX12_widen 87 = .ok (.iaload, 1) := dB_3_0_34.2.1.2.1
theorem dX12_widen_88 : decode cX12_widen 88 = .ok (.iload_n 2, 1) := dB_3_0_34.2.1.2.2
theorem dX12_widen_89 : decode cX12_widen 89 = .ok (.iadd, 1) := dB_3_0_34.2.2.1.1
theorem dX12_widen_90 : decode cX12_widen 90 = .ok (.iastore, 1) := dB_3_0_34.2.2.1.2
theorem dX12_widen_91 : decode cX12_widen 91 = .ok (.iload_n 2, 1) := dB_3_0_34.2.2.2.1
theorem dX12_widen_92 : decode cX12_widen 92 = .ok (.aload_n 0, 1) := dB_3_0_34.2.2.2.2
theorem dB_3_0_35 : ((((decode cX12_widen 93 = .ok (.iload_n 1, 1)) ∧ (decode cX12_widen 94 = .ok (.invokevirtual 135, 3))) ∧ ((decode cX12_widen 97 = .ok (.imul, 1)) ∧ (decode cX12_widen 98 = .ok (.ireturn, 1)))) ∧ (((decode cX12_width 0 = .ok (.aload_n 0, 1)) ∧ (decode cX12_width 1 = .ok (.iconst 0, 1))) ∧ ((decode cX12_width 2 = .ok (.putfield 85, 3)) ∧ (decode cX12_width 5 = .ok (.aload_n 0, 1))))) ∧ ((((decode cX12_width 6 = .ok (.iload_n 1, 1)) ∧ (decode cX12_width 7 = .ok (.invokevirtual 132, 3))) ∧ ((decode cX12_width 10 = .ok (.ifCond .eq 15, 3)) ∧ (decode cX12_width 13 = .ok (.iload_n 2, 1)))) ∧ (((decode cX12_width 14 = .ok (.i2l, 1)) ∧ (decode cX12_width 15 = .ok (.lconst 0, 1))) ∧ ((decode cX12_width 16 = .ok (.ldc2_w 110, 3)) ∧ (decode cX12_width 19 = .ok (.invokestatic 91, 3))))) := by first | decide +kernel | ((repeat' apply And.intro) <;> decide +kernel)
theorem dX12_widen_93 : decode cX12_widen 93 = .ok (.iload_n 1, 1) := dB_3_0_35.1.1.1.1
theorem dX12_widen_94 : decode cX12_widen 94 = .ok (.invokevirtual 135, 3) := dB_3_0_35.1.1.1.2
theorem dX12_widen_97 : decode cX12_widen 97 = .ok (.imul, 1) := dB_3_0_35.1.1.2.1
theorem dX12_widen_98 : decode cX12_widen 98 = .ok (.ireturn, 1) := dB_3_0_35.1.1.2.2
theorem dX12_width_0 : decode cX12_width 0 = .ok (.aload_n 0, 1) := dB_3_0_35.1.2.1.1
theorem dX12_width_1 : decode cX12_width 1 = .ok (.iconst 0, 1) := dB_3_0_35.1.2.1.2
theorem dX12_width_2 : decode cX12_width 2 = .ok (.putfield 85, 3) := dB_3_0_35.1.2.2.1
theorem dX12_width_5 : decode cX12_width 5 = .ok (.aload_n 0, 1) := dB_3_0_35.1.2.2.2
theorem dX12_width_6 : decode cX12_width 6 = .ok (.iload_n 1, 1) := dB_3_0_35.2.1.1.1
theorem dX12_width_7 : decode cX12_width 7 = .ok (.invokevirtual 132, 3) := dB_3_0_35.2.1.1.2
theorem dX12_width_10 : decode cX12_width 10 = .ok (.ifCond .eq 15, 3) := dB_3_0_35.2.1.2.1
theorem dX12_width_13 : decode cX12_width 13 = .ok (.iload_n 2, 1) := dB_3_0_35.2.1.2.2
theorem dX12_width_14 : decode cX12_width 14 = .ok (.i2l, 1) := dB_3_0_35.2.2.1.1
theorem dX12_width_15 : decode cX12_width 15 = .ok (.lconst 0, 1) := dB_3_0_35.2.2.1.2
theorem dX12_width_16 : decode cX12_width 16 = .ok (.ldc2_w 110, 3) := dB_3_0_35.2.2.2.1
theorem dX12_width_19 : decode cX12_width 19 = .ok (.invokestatic 91, 3) := dB_3_0_35.2.2.2.2
theorem dB_3_0_36 : ((((decode cX12_width 22 = .ok (.ifCond .ne 5, 3)) ∧ (decode cX12_width 25 = .ok (.iconst (-1), 1))) ∧ ((decode cX12_width 26 = .ok (.ireturn, 1)) ∧ (decode cX12_width 27 = .ok (.aload_n 0, 1)))) ∧ (((decode cX12_width 28 = .ok (.getfield 25, 3)) ∧ (decode cX12_width 31 = .ok (.iload_n 1, 1))) ∧ ((decode cX12_width 32 = .ok (.baload, 1)) ∧ (decode cX12_width 33 = .ok (.ifCond .eq 6, 3))))) ∧ ((((decode cX12_width 36 = .ok (.bipush (-2), 2)) ∧ (decode cX12_width 38 = .ok (.ireturn, 1))) ∧ ((decode cX12_width 39 = .ok (.aload_n 0, 1)) ∧ (decode cX12_width 40 = .ok (.invokevirtual 105, 3)))) ∧ (((decode cX12_width 43 = .ok (.aload_n 0, 1)) ∧ (decode cX12_width 44 = .ok (.getfield 19, 3))) ∧ ((decode cX12_width 47 = .ok (.iload_n 1, 1)) ∧ (decode cX12_width 48 = .ok (.iaload, 1))))) := by first | decide +kernel | ((repeat' apply And.intro) <;> decide +kernel)
theorem dX12_width_22 : decode cX12_width 22 = .ok (.ifCond .ne 5, 3) := dB_3_0_36.1.1.1.1
theorem dX12_width_25 : decode cX12_width 25 = .ok (.iconst (-1), 1) := dB_3_0_36.1.1.1.2
theorem dX12_width_26 : decode cX12_width 26 = .ok (.ireturn, 1) := dB_3_0_36.1.1.2.1
theorem dX12_width_27 : decode cX12_width 27 = .ok (.aload_n 0, 1) := dB_3_0_36.1.1.2.2
theorem dX12_width_28 : decode cX12_width 28 = .ok (.getfield 25, 3) := dB_3_0_36.1.2.1.1
theorem dX12_width_31 : decode cX12_width 31 = .ok (.iload_n 1, 1) := dB_3_0_36.1.2.1.2
theorem dX12_width_32 : decode cX12_width 32 = .ok (.baload, 1) := dB_3_0_36.1.2.2.1
theorem dX12_width_33 : decode cX12_width 33 = .ok (.ifCond .eq 6, 3) := dB_3_0_36.1.2.2.2
theorem dX12_width_36 : decode cX12_width 36 = .ok (.bipush (-2), 2) := dB_3_0_36.2.1.1.1
theorem dX12_width_38 : decode cX12_width 38 = .ok (.ireturn, 1) := dB_3_0_36.2.1.1.2
theorem dX12_width_39 : decode cX12_width 39 = .ok (.aload_n 0, 1) := dB_3_0_36.2.1.2.1
theorem dX12_width_40 : decode cX12_width 40 = .ok (.invokevirtual 105, 3) := dB_3_0_36.2.1.2.2
theorem dX12_width_43 : decode cX12_width 43 = .ok (.aload_n 0, 1) := dB_3_0_36.2.2.1.1
theorem dX12_width_44 : decode cX12_width 44 = .ok (.getfield 19, 3) := dB_3_0_36.2.2.1.2
theorem dX12_width_47 : decode cX12_width 47 = .ok (.iload_n 1, 1) := dB_3_0_36.2.2.2.1
theorem dX12_width_48 : decode cX12_width 48 = .ok (.iaload, 1) := dB_3_0_36.2.2.2.2
theorem dB_3_0_37 : ((((decode cX12_width 49 = .ok (.istore_n 3, 1)) ∧ (decode cX12_width 50 = .ok (.aload_n 0, 1))) ∧ ((decode cX12_width 51 = .ok (.getfield 19, 3)) ∧ (decode cX12_width 54 = .ok (.iload_n 1, 1)))) ∧ (((decode cX12_width 55 = .ok (.iload_n 2, 1)) ∧ (decode cX12_width 56 = .ok (.iastore, 1))) ∧ ((decode cX12_width 57 = .ok (.iload_n 3, 1)) ∧ (decode cX12_width 58 = .ok (.ireturn, 1))))) ∧ ((((decode cX12_merge 0 = .ok (.aload_n 0, 1)) ∧ (decode cX12_merge 1 = .ok (.iconst 0, 1))) ∧ ((decode cX12_merge 2 = .ok (.putfield 85, 3)) ∧ (decode cX12_merge 5 = .ok (.aload_n 0, 1)))) ∧ (((decode cX12_merge 6 = .ok (.iload_n 1, 1)) ∧ (decode cX12_merge 7 = .ok (.iload_n 2, 1))) ∧ ((decode cX12_merge 8 = .ok (.invokevirtual 143, 3)) ∧ (decode cX12_merge 11 = .ok (.ifCond .ne 5, 3))))) := by first | decide +kernel | ((repeat' apply And.intro) <;> decide +kernel)
theorem dX12_width_49 : decode cX12_width 49 = .ok (.istore_n 3, 1) := dB_3_0_37.1.1.1.1
theorem dX12_width_50 : decode cX12_width 50 = .ok (.aload_n 0, 1) := dB_3_0_37.1.1.1.2
theorem dX12_width_51 : decode cX12_width 51 = .ok (.getfield 19, 3) := dB_3_0_37.1.1.2.1
theorem dX12_width_54 : decode cX12_width 54 = .ok (.iload_n 1, 1) := dB_3_0_37.1.1.2.2
theorem dX12_width_55 : decode cX12_width 55 = .ok (.iload_n 2, 1) := dB_3_0_37.1.2.1.1
theorem dX12_width_56 : decode cX12_width 56 = .ok (.iastore, 1) := dB_3_0_37.1.2.1.2
theorem dX12_width_57 : decode cX12_width 57 = .ok (.iload_n 3, 1) := dB_3_0_37.1.2.2.1
theorem dX12_width_58 : decode cX12_width 58 = .ok (.ireturn, 1) := dB_3_0_37.1.2.2.2
theorem dX12_merge_0 : decode cX12_merge 0 = .ok (.aload_n 0, 1) := dB_3_0_37.2.1.1.1
theorem dX12_merge_1 : decode cX12_merge 1 = .ok (.iconst 0, 1) := dB_3_0_37.2.1.1.2
theorem dX12_merge_2 : decode cX12_merge 2 = .ok (.putfield 85, 3) := dB_3_0_37.2.1.2.1
theorem dX12_merge_5 : decode cX12_merge 5 = .ok (.aload_n 0, 1) := dB_3_0_37.2.1.2.2
theorem dX12_merge_6 : decode cX12_merge 6 = .ok (.iload_n 1, 1) := dB_3_0_37.2.2.1.1
theorem dX12_merge_7 : decode cX12_merge 7 = .ok (.iload_n 2, 1) := dB_3_0_37.2.2.1.2
theorem dX12_merge_8 : decode cX12_merge 8 = .ok (.invokevirtual 143, 3) := dB_3_0_37.2.2.2.1
theorem dX12_merge_11 : decode cX12_merge 11 = .ok (.ifCond .ne 5, 3) := dB_3_0_37.2.2.2.2
theorem dB_3_0_38 : ((((decode cX12_merge 14 = .ok (.iconst (-1), 1)) ∧ (decode cX12_merge 15 = .ok (.ireturn, 1))) ∧ ((decode cX12_merge 16 = .ok (.aload_n 0, 1)) ∧ (decode cX12_merge 17 = .ok (.invokevirtual 105, 3)))) ∧ (((decode cX12_merge 20 = .ok (.iload_n 1, 1)) ∧ (decode cX12_merge 21 = .ok (.iload_n 2, 1))) ∧ ((decode cX12_merge 22 = .ok (.if_icmp .ge 7, 3)) ∧ (decode cX12_merge 25 = .ok (.iload_n 1, 1))))) ∧ ((((decode cX12_merge 26 = .ok (.goto 4, 3)) ∧ (decode cX12_merge 29 = .ok (.iload_n 2, 1))) ∧ ((decode cX12_merge 30 = .ok (.istore_n 3, 1)) ∧ (decode cX12_merge 31 = .ok (.iload_n 1, 1)))) ∧ (((decode cX12_merge 32 = .ok (.iload_n 2, 1)) ∧ (decode cX12_merge 33 = .ok (.if_icmp .ge 7, 3))) ∧ ((decode cX12_merge 36 = .ok (.iload_n 2, 1)) ∧ (decode cX12_merge 37 = .ok (.goto 4, 3))))) := by first | decide +kernel | ((repeat' apply And.intro) <;> decide +kernel)
theorem dX12_merge_14 : decode cX12_merge 14 = .ok (.iconst (-1), 1) := dB_3_0_38.1.1.1.1
theorem dX12_merge_15 : decode cX12_merge 15 = .ok (.ireturn, 1) := dB_3_0_38.1.1.1.2
theorem dX12_merge_16 : decode cX12_merge 16 = .ok (.aload_n 0, 1) := dB_3_0_38.1.1.2.1
theorem dX12_merge_17 : decode cX12_merge 17 = .ok (.invokevirtual 105, 3) := dB_3_0_38.1.1.2.2
theorem dX12_merge_20 : decode cX12_merge 20 = .ok (.iload_n 1, 1) := dB_3_0_38.1.2.1.1
theorem dX12_merge_21 : decode cX12_merge 21 = .ok (.iload_n 2, 1) := dB_3_0_38.1.2.1.2
theorem dX12_merge_22 : decode cX12_merge 22 = .ok (.if_icmp .ge 7, 3) := dB_3_0_38.1.2.2.1
theorem dX12_merge_25 : decode cX12_merge 25 = .ok (.iload_n 1, 1) := dB_3_0_38.1.2.2.2
theorem dX12_merge_26 : decode cX12_merge 26 = .ok (.goto 4, 3) := dB_3_0_38.2.1.1.1
theorem dX12_merge_29 : decode cX12_merge 29 = .ok (.iload_n 2, 1) := dB_3_0_38.2.1.1.2
theorem dX12_merge_30 : decode cX12_merge 30 = .ok (.istore_n 3, 1) := dB_3_0_38.2.1.2.1
theorem dX12_merge_31 : decode cX12_merge 31 = .ok (.iload_n 1, 1) := dB_3_0_38.2.1.2.2
theorem dX12_merge_32 : decode cX12_merge 32 = .ok (.iload_n 2, 1) := dB_3_0_38.2.2.1.1
theorem dX12_merge_33 : decode cX12_merge 33 = .ok (.if_icmp .ge 7, 3) := dB_3_0_38.2.2.1.2
theorem dX12_merge_36 : decode cX12_merge 36 = .ok (.iload_n 2, 1) := dB_3_0_38.2.2.2.1
theorem dX12_merge_37 : decode cX12_merge 37 = .ok (.goto 4, 3) := dB_3_0_38.2.2.2.2
theorem dB_3_0_39 : ((((decode cX12_merge 40 = .ok (.iload_n 1, 1)) ∧ (decode cX12_merge 41 = .ok (.istore 4, 2))) ∧ ((decode cX12_merge 43 = .ok (.iconst 0, 1)) ∧ (decode cX12_merge 44 = .ok (.istore 5, 2)))) ∧ (((decode cX12_merge 46 = .ok (.iconst 0, 1)) ∧ (decode cX12_merge 47 = .ok (.istore 6, 2))) ∧ ((decode cX12_merge 49 = .ok (.iload 6, 2)) ∧ (decode cX12_merge 51 = .ok (.aload_n 0, 1))))) ∧ ((((decode cX12_merge 52 = .ok (.getfield 95, 3)) ∧ (decode cX12_merge 55 = .ok (.if_icmp .ge 176, 3))) ∧ ((decode cX12_merge 58 = .ok (.aload_n 0, 1)) ∧ (decode cX12_merge 59 = .ok (.getfield 25, 3)))) ∧ (((decode cX12_merge 62 = .ok (.iload 6, 2)) ∧ (decode cX12_merge 64 = .ok (.baload, 1))) ∧ ((decode cX12_merge 65 = .ok (.ifCond .ne 160, 3)) ∧ (decode cX12_merge 68 = .ok (.aload_n 0, 1))))) := by first | decide +kernel | ((repeat' apply And.intro) <;> decide +kernel)
theorem dX12_merge_40 : decode cX12_merge 40 = .ok (.iload_n 1, 1) := dB_3_0_39.1.1.1.1
theorem dX12_merge_41 : decode cX12_merge 41 = .ok (.istore 4, 2) := dB_3_0_39.1.1.1.2
theorem dX12_merge_43 : decode cX12_merge 43 = .ok (.iconst 0, 1) := dB_3_0_39.1.1.2.1
theorem dX12_merge_44 : decode cX12_merge 44 = .ok (.istore 5, 2) := dB_3_0_39.1.1.2.2
theorem dX12_merge_46 : decode cX12_merge 46 = .ok (.iconst 0, 1) := dB_3_0_39.1.2.1.1
theorem dX12_merge_47 : decode cX12_merge 47 = .ok (.istore 6, 2) := dB_3_0_39.1.2.1.2
theorem dX12_merge_49 : decode cX12_merge 49 = .ok (.iload 6, 2) := dB_3_0_39.1.2.2.1
theorem dX12_merge_51 : decode cX12_merge 51 = .ok (.aload_n 0, 1) := dB_3_0_39.1.2.2.2
theorem dX12_merge_52 : decode cX12_merge 52 = .ok (.getfield 95, 3) := dB_3_0_39.2.1.1.1
theorem dX12_merge_55 : decode cX12_merge 55 = .ok (.if_icmp .ge 176, 3) := dB_3_0_39.2.1.1.2
theorem dX12_merge_58 : decode cX12_merge 58 = .ok (.aload_n 0, 1) := dB_3_0_39.2.1.2.1
theorem dX12_merge_59 : decode cX12_merge 59 = .ok (.getfield 25, 3) := dB_3_0_39.2.1.2.2
theorem dX12_merge_62 : decode cX12_merge 62 = .ok (.iload 6, 2) := dB_3_0_39.2.2.1.1
theorem dX12_merge_64 : decode cX12_merge 64 = .ok (.baload, 1) := dB_3_0_39.2.2.1.2
theorem dX12_merge_65 : decode cX12_merge 65 = .ok (.ifCond .ne 160, 3) := dB_3_0_39.2.2.2.1
theorem dX12_merge_68 : decode cX12_merge 68 = .ok (.aload_n 0, 1) := dB_3_0_39.2.2.2.2
theorem dB_3_0_40 : ((((decode cX12_merge 69 = .ok (.getfield 13, 3)) ∧ (decode cX12_merge 72 = .ok (.iload 6, 2))) ∧ ((decode cX12_merge 74 = .ok (.aload_n 0, 1)) ∧ (decode cX12_merge 75 = .ok (.getfield 13, 3)))) ∧ (((decode cX12_merge 78 = .ok (.iload 6, 2)) ∧ (decode cX12_merge 80 = .ok (.iaload, 1))) ∧ ((decode cX12_merge 81 = .ok (.iload 4, 2)) ∧ (decode cX12_merge 83 = .ok (.if_icmp .ne 7, 3))))) ∧ ((((decode cX12_merge 86 = .ok (.iload_n 3, 1)) ∧ (decode cX12_merge 87 = .ok (.goto 34, 3))) ∧ ((decode cX12_merge 90 = .ok (.aload_n 0, 1)) ∧ (decode cX12_merge 91 = .ok (.getfield 13, 3)))) ∧ (((decode cX12_merge 94 = .ok (.iload 6, 2)) ∧ (decode cX12_merge 96 = .ok (.iaload, 1))) ∧ ((decode cX12_merge 97 = .ok (.iload 4, 2)) ∧ (decode cX12_merge 99 = .ok (.if_icmp .le 15, 3))))) := by first | decide +kernel | ((repeat' apply And.intro) <;> decide +kernel)
theorem dX12_merge_69 : decode cX12_merge 69 = .ok (.getfield 13, 3) := dB_3_0_40.1.1.1.1
theorem dX12_merge_72 : decode cX12_merge 72 = .ok (.iload 6, 2) := dB_3_0_40.1.1.1.2
theorem dX12_merge_74 : decode cX12_merge 74 = .ok (.aload_n 0, 1) := dB_3_0_40.1.1.2.1
theorem dX12_merge_75 : decode cX12_merge 75 = .ok (.getfield 13, 3) := dB_3_0_40.1.1.2.2
theorem dX12_merge_78 : decode cX12_merge 78 = .ok (.iload 6, 2) := dB_3_0_40.1.2.1.1
theorem dX12_merge_80 : decode cX12_merge 80 = .ok (.iaload, 1) := dB_3_0_40.1.2.1.2
theorem dX12_merge_81 : decode cX12_merge 81 = .ok (.iload 4, 2) := dB_3_0_40.1.2.2.1
theorem dX12_merge_83 : decode cX12_merge 83 = .ok (.if_icmp .ne 7, 3) := dB_3_0_40.1.2.2.2
theorem dX12_merge_86 : decode cX12_merge 86 = .ok (.iload_n 3, 1) := dB_3_0_40.2.1.1.1
theorem dX12_merge_87 : decode cX12_merge 87 = .ok (.goto 34, 3) := dB_3_0_40.2.1.1.2
theorem dX12_merge_90 : decode cX12_merge 90 = .ok (.aload_n 0, 1) := dB_3_0_40.2.1.2.1
theorem dX12_merge_91 : decode cX12_merge 91 = .ok (.getfield 13, 3) := dB_3_0_40.2.1.2.2
theorem dX12_merge_94 : decode cX12_merge 94 = .ok (.iload 6, 2) := dB_3_0_40.2.2.1.1
theorem dX12_merge_96 : decode cX12_merge 96 = .ok (.iaload, 1) := dB_3_0_40.2.2.1.2
theorem dX12_merge_97 : decode cX12_merge 97 = .ok (.iload 4, 2) := dB_3_0_40.2.2.2.1
theorem dX12_merge_99 : decode cX12_merge 99 = .ok (.if_icmp .le 15, 3) := dB_3_0_40.2.2.2.2
theorem dB_3_0_41 : ((((decode cX12_merge 102 = .ok (.aload_n 0, 1)) ∧ (decode cX12_merge 103 = .ok (.getfield 13, 3))) ∧ ((decode cX12_merge 106 = .ok (.iload 6, 2)) ∧ (decode cX12_merge 108 = .ok (.iaload, 1)))) ∧ (((decode cX12_merge 109 = .ok (.iconst 1, 1)) ∧ (decode cX12_merge 110 = .ok (.isub, 1))) ∧ ((decode cX12_merge 111 = .ok (.goto 10, 3)) ∧ (decode cX12_merge 114 = .ok (.aload_n 0, 1))))) ∧ ((((decode cX12_merge 115 = .ok (.getfield 13, 3)) ∧ (decode cX12_merge 118 = .ok (.iload 6, 2))) ∧ ((decode cX12_merge 120 = .ok (.iaload, 1)) ∧ (decode cX12_merge 121 = .ok (.iastore, 1)))) ∧ (((decode cX12_merge 122 = .ok (.aload_n 0, 1)) ∧ (decode cX12_merge 123 = .ok (.getfield 16, 3))) ∧ ((decode cX12_merge 126 = .ok (.iload 6, 2)) ∧ (decode cX12_merge 128 = .ok (.aload_n 0, 1))))) := by first | decide +kernel | ((repeat' apply And.intro) <;> decide +kernel)
theorem dX12_merge_102 : decode cX12_merge 102 = .ok (.aload_n 0, 1) := dB_3_0_41.1.1.1.1
theorem dX12_merge_103 : decode cX12_merge 103 = .ok (.getfield 13, 3) := dB_3_0_41.1.1.1.2
theorem dX12_merge_106 : decode cX12_merge 106 = .ok (.iload 6, 2) := dB_3_0_41.1.1.2.1
theorem dX12_merge_108 : decode cX12_merge 108 = .ok (.iaload, 1) := dB_3_0_41.1.1.2.2
theorem dX12_merge_109 : decode cX12_merge 109 = .ok (.iconst 1, 1) := dB_3_0_41.1.2.1.1
theorem dX12_merge_110 : decode cX12_merge 110 = .ok (.isub, 1) := dB_3_0_41.1.2.1.2
theorem dX12_merge_111 : decode cX12_merge 111 = .ok (.goto 10, 3) := dB_3_0_41.1.2.2.1
theorem dX12_merge_114 : decode cX12_merge 114 = .ok (.aload_n 0, 1) := dB_3_0_41.1.2.2.2
theorem dX12_merge_115 : decode cX12_merge 115 = .ok (.getfield 13, 3) := dB_3_0_41.2.1.1.1
theorem dX12_merge_118 : decode cX12_merge 118 = .ok (.iload 6, 2) := dB_3_0_41.2.1.1.2
theorem dX12_merge_120 : decode cX12_merge 120 = .ok (.iaload, 1) := dB_3_0_41.2.1.2.1
theorem dX12_merge_121 : decode cX12_merge 121 = .ok (.iastore, 1) := dB_3_0_41.2.1.2.2
theorem dX12_merge_122 : decode cX12_merge 122 = .ok (.aload_n 0, 1) := dB_3_0_41.2.2.1.1
theorem dX12_merge_123 : decode cX12_merge 123 = .ok (.getfield 16, 3) := dB_3_0_41.2.2.1.2
theorem dX12_merge_126 : decode cX12_merge 126 = .ok (.iload 6, 2) := dB_3_0_41.2.2.2.1
theorem dX12_merge_128 : decode cX12_merge 128 = .ok (.aload_n 0, 1) := dB_3_0_41.2.2.2.2
theorem dB_3_0_42 : ((((decode cX12_merge 129 = .ok (.getfield 16, 3)) ∧ (decode cX12_merge 132 = .ok (.iload 6, 2))) ∧ ((decode cX12_merge 134 = .ok (.iaload, 1)) ∧ (decode cX12_merge 135 = .ok (.iload 4, 2)))) ∧ (((decode cX12_merge 137 = .ok (.if_icmp .ne 7, 3)) ∧ (decode cX12_merge 140 = .ok (.iload_n 3, 1))) ∧ ((decode cX12_merge 141 = .ok (.goto 34, 3)) ∧ (decode cX12_merge 144 = .ok (.aload_n 0, 1))))) ∧ ((((decode cX12_merge 145 = .ok (.getfield 16, 3)) ∧ (decode cX12_merge 148 = .ok (.iload 6, 2))) ∧ ((decode cX12_merge 150 = .ok (.iaload, 1)) ∧ (decode cX12_merge 151 = .ok (.iload 4, 2)))) ∧ (((decode cX12_merge 153 = .ok (.if_icmp .le 15, 3)) ∧ (decode cX12_merge 156 = .ok (.aload_n 0, 1))) ∧ ((decode cX12_merge 157 = .ok (.getfield 16, 3)) ∧ (decode cX12_merge 160 = .ok (.iload 6, 2))))) := by first | decide +kernel | ((repeat' apply And.intro) <;> decide +kernel)
theorem dX12_merge_129 : decode cX12_merge 129 = .ok (.getfield 16, 3) := dB_3_0_42.1.1.1.1
theorem dX12_merge_132 : decode cX12_merge 132 = .ok (.iload 6, 2) := dB_3_0_42.1.1.1.2
theorem dX12_merge_134 : decode cX12_merge 134 = .ok (.iaload, 1) := dB_3_0_42.1.1.2.1
theorem dX12_merge_135 : decode cX12_merge 135 = .ok (.iload 4, 2) := dB_3_0_42.1.1.2.2
theorem dX12_merge_137 : decode cX12_merge 137 = .ok (.if_icmp .ne 7, 3) := dB_3_0_42.1.2.1.1
theorem dX12_merge_140 : decode cX12_merge 140 = .ok (.iload_n 3, 1) := dB_3_0_42.1.2.1.2
theorem dX12_merge_141 : decode cX12_merge 141 = .ok (.goto 34, 3) := dB_3_0_42.1.2.2.1
theorem dX12_merge_144 : decode cX12_merge 144 = .ok (.aload_n 0, 1) := dB_3_0_42.1.2.2.2
theorem dX12_merge_145 : decode cX12_merge 145 = .ok (.getfield 16, 3) := dB_3_0_42.2.1.1.1
theorem dX12_merge_148 : decode cX12_merge 148 = .ok (.iload 6, 2) := dB_3_0_42.2.1.1.2
theorem dX12_merge_150 : decode cX12_merge 150 = .ok (.iaload, 1) := dB_3_0_42.2.1.2.1
theorem dX12_merge_151 : decode cX12_merge 151 = .ok (.iload 4, 2) := dB_3_0_42.2.1.2.2
theorem dX12_merge_153 : decode cX12_merge 153 = .ok (.if_icmp .le 15, 3) := dB_3_0_42.2.2.1.1
theorem dX12_merge_156 : decode cX12_merge 156 = .ok (.aload_n 0, 1) := dB_3_0_42.2.2.1.2
theorem dX12_merge_157 : decode cX12_merge 157 = .ok (.getfield 16, 3) := dB_3_0_42.2.2.2.1
theorem dX12_merge_160 : decode cX12_merge 160 = .ok (.iload 6, 2) := dB_3_0_42.2.2.2.2
theorem dB_3_0_43 : ((((decode cX12_merge 162 = .ok (.iaload, 1)) ∧ (decode cX12_merge 163 = .ok (.iconst 1, 1))) ∧ ((decode cX12_merge 164 = .ok (.isub, 1)) ∧ (decode cX12_merge 165 = .ok (.goto 10, 3)))) ∧ (((decode cX12_merge 168 = .ok (.aload_n 0, 1)) ∧ (decode cX12_merge 169 = .ok (.getfield 16, 3))) ∧ ((decode cX12_merge 172 = .ok (.iload 6, 2)) ∧ (decode cX12_merge 174 = .ok (.iaload, 1))))) ∧ ((((decode cX12_merge 175 = .ok (.iastore, 1)) ∧ (decode cX12_merge 176 = .ok (.aload_n 0, 1))) ∧ ((decode cX12_merge 177 = .ok (.getfield 25, 3)) ∧ (decode cX12_merge 180 = .ok (.iload 6, 2)))) ∧ (((decode cX12_merge 182 = .ok (.aload_n 0, 1)) ∧ (decode cX12_merge 183 = .ok (.getfield 13, 3))) ∧ ((decode cX12_merge 186 = .ok (.iload 6, 2)) ∧ (decode cX12_merge 188 = .ok (.iaload, 1))))) := by first | decide +kernel | ((repeat' apply And.intro) <;> decide +kernel)
theorem dX12_merge_162 : decode cX12_merge 162 = .ok (.iaload, 1) := dB_3_0_43.1.1.1.1
theorem dX12_merge_163 : decode cX12_merge 163 = .ok (.iconst 1, 1) := dB_3_0_43.1.1.1.2
theorem dX12_merge_164 : decode cX12_merge 164 = .ok (.isub, 1) := dB_3_0_43.1.1.2.1
theorem dX12_merge_165 : decode cX12_merge 165 = .ok (.goto 10, 3) := dB_3_0_43.1.1.2.2
theorem dX12_merge_168 : decode cX12_merge 168 = .ok (.aload_n 0, 1) := dB_3_0_43.1.2.1.1
theorem dX12_merge_169 : decode cX12_merge 169 = .ok (.getfield 16, 3) := dB_3_0_43.1.2.1.2
theorem dX12_merge_172 : decode cX12_merge 172 = .ok (.iload 6, 2) := dB_3_0_43.1.2.2.1
theorem dX12_merge_174 : decode cX12_merge 174 = .ok (.iaload, 1) := dB_3_0_43.1.2.2.2
theorem dX12_merge_175 : decode cX12_merge 175 = .ok (.iastore, 1) := dB_3_0_43.2.1.1.1
theorem dX12_merge_176 : decode cX12_merge 176 = .ok (.aload_n 0, 1) := dB_3_0_43.2.1.1.2
theorem dX12_merge_177 : decode cX12_merge 177 = .ok (.getfield 25, 3) := dB_3_0_43.2.1.2.1
theorem dX12_merge_180 : decode cX12_merge 180 = .ok (.iload 6, 2) := dB_3_0_43.2.1.2.2
theorem dX12_merge_182 : decode cX12_merge 182 = .ok (.aload_n 0, 1) := dB_3_0_43.2.2.1.1
theorem dX12_merge_183 : decode cX12_merge 183 = .ok (.getfield 13, 3) := dB_3_0_43.2.2.1.2
theorem dX12_merge_186 : decode cX12_merge 186 = .ok (.iload 6, 2) := dB_3_0_43.2.2.2.1
theorem dX12_merge_188 : decode cX12_merge 188 = .ok (.iaload, 1) := dB_3_0_43.2.2.2.2
theorem dB_3_0_44 : ((((decode cX12_merge 189 = .ok (.aload_n 0, 1)) ∧ (decode cX12_merge 190 = .ok (.getfield 16, 3))) ∧ ((decode cX12_merge 193 = .ok (.iload 6, 2)) ∧ (decode cX12_merge 195 = .ok (.iaload, 1)))) ∧ (((decode cX12_merge 196 = .ok (.if_icmp .ne 7, 3)) ∧ (decode cX12_merge 199 = .ok (.iconst 1, 1))) ∧ ((decode cX12_merge 200 = .ok (.goto 4, 3)) ∧ (decode cX12_merge 203 = .ok (.iconst 0, 1))))) ∧ ((((decode cX12_merge 204 = .ok (.bastore, 1)) ∧ (decode cX12_merge 205 = .ok (.iload 5, 2))) ∧ ((decode cX12_merge 207 = .ok (.aload_n 0, 1)) ∧ (decode cX12_merge 208 = .ok (.getfield 25, 3)))) ∧ (((decode cX12_merge 211 = .ok (.iload 6, 2)) ∧ (decode cX12_merge 213 = .ok (.baload, 1))) ∧ ((decode cX12_merge 214 = .ok (.ifCond .eq 7, 3)) ∧ (decode cX12_merge 217 = .ok (.iconst 1, 1))))) := by first | decide +kernel | ((repeat' apply And.intro) <;> decide +kernel)
theorem dX12_merge_189 : decode cX12_merge 189 = .ok (.aload_n 0, 1) := dB_3_0_44.1.1.1.1
theorem dX12_merge_190 : decode cX12_merge 190 = .ok (.getfield 16, 3) := dB_3_0_44.1.1.1.2
theorem dX12_merge_193 : decode cX12_merge 193 = .ok (.iload 6, 2) := dB_3_0_44.1.1.2.1
theorem dX12_merge_195 : decode cX12_merge 195 = .ok (.iaload, 1) := dB_3_0_44.1.1.2.2
theorem dX12_merge_196 : decode cX12_merge 196 = .ok (.if_icmp .ne 7, 3) := dB_3_0_44.1.2.1.1
theorem dX12_merge_199 : decode cX12_merge 199 = .ok (.iconst 1, 1) := dB_3_0_44.1.2.1.2
theorem dX12_merge_200 : decode cX12_merge 200 = .ok (.goto 4, 3) := dB_3_0_44.1.2.2.1
theorem dX12_merge_203 : decode cX12_merge 203 = .ok (.iconst 0, 1) := dB_3_0_44.1.2.2.2
theorem dX12_merge_204 : decode cX12_merge 204 = .ok (.bastore, 1) := dB_3_0_44.2.1.1.1
theorem dX12_merge_205 : decode cX12_merge 205 = .ok (.iload 5, 2) := dB_3_0_44.2.1.1.2
theorem dX12_merge_207 : decode cX12_merge 207 = .ok (.aload_n 0, 1) := dB_3_0_44.2.1.2.1
theorem dX12_merge_208 : decode cX12_merge 208 = .ok (.getfield 25, 3) := dB_3_0_44.2.1.2.2
theorem dX12_merge_211 : decode cX12_merge 211 = .ok (.iload 6, 2) := dB_3_0_44.2.2.1.1
theorem dX12_merge_213 : decode cX12_merge 213 = .ok (.baload, 1) := dB_3_0_44.2.2.1.2
theorem dX12_merge_214 : decode cX12_merge 214 = .ok (.ifCond .eq 7, 3) := dB_3_0_44.2.2.2.1
theorem dX12_merge_217 : decode cX12_merge 217 = .ok (.iconst 1, 1) := dB_3_0_44.2.2.2.2
theorem dB_3_0_45 : ((((decode cX12_merge 218 = .ok (.goto 4, 3)) ∧ (decode cX12_merge 221 = .ok (.iconst 0, 1))) ∧ ((decode cX12_merge 222 = .ok (.iadd, 1)) ∧ (decode cX12_merge 223 = .ok (.istore 5, 2)))) ∧ (((decode cX12_merge 225 = .ok (.iinc 6 1, 3)) ∧ (decode cX12_merge 228 = .ok (.goto (-179), 3))) ∧ ((decode cX12_merge 231 = .ok (.aload_n 0, 1)) ∧ (decode cX12_merge 232 = .ok (.dup, 1))))) ∧ ((((decode cX12_merge 233 = .ok (.getfield 88, 3)) ∧ (decode cX12_merge 236 = .ok (.iconst 1, 1))) ∧ ((decode cX12_merge 237 = .ok (.isub, 1)) ∧ (decode cX12_merge 238 = .ok (.putfield 88, 3)))) ∧ (((decode cX12_merge 241 = .ok (.iload 5, 2)) ∧ (decode cX12_merge 243 = .ok (.ireturn, 1))) ∧ ((decode cX12_undo 0 = .ok (.aload_n 0, 1)) ∧ (decode cX12_undo 1 = .ok (.iconst 0, 1))))) := by first | decide +kernel | ((repeat' apply And.intro) <;> decide +kernel)
theorem dX12_merge_218 : decode cX12_merge 218 = .ok (.goto 4, 3) := dB_3_0_45.1.1.1.1
theorem dX12_merge_221 : decode cX12_merge 221 = .ok (.iconst 0, 1) := dB_3_0_45.1.1.1.2
theorem dX12_merge_222 : decode cX12_merge 222 = .ok (.iadd, 1) := dB_3_0_45.1.1.2.1
theorem dX12_merge_223 : decode cX12_merge 223 = .ok (.istore 5, 2) := dB_3_0_45.1.1.2.2
theorem dX12_merge_225 : decode cX12_merge 225 = .ok (.iinc 6 1, 3) := dB_3_0_45.1.2.1.1
theorem dX12_merge_228 : decode cX12_merge 228 = .ok (.goto (-179), 3) := dB_3_0_45.1.2.1.2
theorem dX12_merge_231 : decode cX12_merge 231 = .ok (.aload_n 0, 1) := dB_3_0_45.1.2.2.1
theorem dX12_merge_232 : decode cX12_merge 232 = .ok (.dup, 1) := dB_3_0_45.1.2.2.2
theorem dX12_merge_233 : decode cX12_merge 233 = .ok (.getfield 88, 3) := dB_3_0_45.2.1.1.1
theorem dX12_merge_236 : decode cX12_merge 236 = .ok (.iconst 1, 1) := dB_3_0_45.2.1.1.2
theorem dX12_merge_237 : decode cX12_merge 237 = .ok (.isub, 1) := dB_3_0_45.2.1.2.1
theorem dX12_merge_238 : decode cX12_merge 238 = .ok (.putfield 88, 3) := dB_3_0_45.2.1.2.2
theorem dX12_merge_241 : decode cX12_merge 241 = .ok (.iload 5, 2) := dB_3_0_45.2.2.1.1
theorem dX12_merge_243 : decode cX12_merge 243 = .ok (.ireturn, 1) := dB_3_0_45.2.2.1.2
theorem dX12_undo_0 : decode cX12_undo 0 = .ok (.aload_n 0, 1) := dB_3_0_45.2.2.2.1
theorem dX12_undo_1 : decode cX12_undo 1 = .ok (.iconst 0, 1) := dB_3_0_45.2.2.2.2
theorem dB_3_0_46 : ((((decode cX12_undo 2 = .ok (.putfield 85, 3)) ∧ (decode cX12_undo 5 = .ok (.aload_n 0, 1))) ∧ ((decode cX12_undo 6 = .ok (.getfield 102, 3)) ∧ (decode cX12_undo 9 = .ok (.ifCond .ne 6, 3)))) ∧ (((decode cX12_undo 12 = .ok (.bipush (-2), 2)) ∧ (decode cX12_undo 14 = .ok (.ireturn, 1))) ∧ ((decode cX12_undo 15 = .ok (.aload_n 0, 1)) ∧ (decode cX12_undo 16 = .ok (.dup, 1))))) ∧ ((((decode cX12_undo 17 = .ok (.getfield 102, 3)) ∧ (decode cX12_undo 20 = .ok (.iconst 1, 1))) ∧ ((decode cX12_undo 21 = .ok (.isub, 1)) ∧ (decode cX12_undo 22 = .ok (.putfield 102, 3)))) ∧ (((decode cX12_undo 25 = .ok (.aload_n 0, 1)) ∧ (decode cX12_undo 26 = .ok (.aload_n 0, 1))) ∧ ((decode cX12_undo 27 = .ok (.getfield 29, 3)) ∧ (decode cX12_undo 30 = .ok (.aload_n 0, 1))))) := by first | decide +kernel | ((repeat' apply And.intro) <;> decide +kernel)
theorem dX12_undo_2 : decode cX12_undo 2 = .ok (.putfield 85, 3) := dB_3_0_46.1.1.1.1
theorem dX12_undo_5 : decode cX12_undo 5 = .ok (.aload_n 0, 1) := dB_3_0_46.1.1.1.2
theorem dX12_undo_6 : decode cX12_undo 6 = .ok (.getfield 102, 3) := dB_3_0_46.1.1.2.1
theorem dX12_undo_9 : decode cX12_undo 9 = .ok (.ifCond .ne 6, 3) := dB_3_0_46.1.1.2.2
theorem dX12_undo_12 : decode cX12_undo 12 = .ok (.bipush (-2), 2) := dB_3_0_46.1.2.1.1
theorem dX12_undo_14 : decode cX12_undo 14 = .ok (.ireturn, 1) := dB_3_0_46.1.2.1.2
theorem dX12_undo_15 : decode cX12_undo 15 = .ok (.aload_n 0, 1) := dB_3_0_46.1.2.2.1
theorem dX12_undo_16 : decode cX12_undo 16 = .ok (.dup, 1) := dB_3_0_46.1.2.2.2
theorem dX12_undo_17 : decode cX12_undo 17 = .ok (.getfield 102, 3) := dB_3_0_46.2.1.1.1
theorem dX12_undo_20 : decode cX12_undo 20 = .ok (.iconst 1, 1) := dB_3_0_46.2.1.1.2
theorem dX12_undo_21 : decode cX12_undo 21 = .ok (.isub, 1) := dB_3_0_46.2.1.2.1
theorem dX12_undo_22 : decode cX12_undo 22 = .ok (.putfield 102, 3) := dB_3_0_46.2.1.2.2
theorem dX12_undo_25 : decode cX12_undo 25 = .ok (.aload_n 0, 1) := dB_3_0_46.2.2.1.1
theorem dX12_undo_26 : decode cX12_undo 26 = .ok (.aload_n 0, 1) := dB_3_0_46.2.2.1.2
theorem dX12_undo_27 : decode cX12_undo 27 = .ok (.getfield 29, 3) := dB_3_0_46.2.2.2.1
theorem dX12_undo_30 : decode cX12_undo 30 = .ok (.aload_n 0, 1) := dB_3_0_46.2.2.2.2
theorem dB_3_0_47 : ((((decode cX12_undo 31 = .ok (.getfield 102, 3)) ∧ (decode cX12_undo 34 = .ok (.iaload, 1))) ∧ ((decode cX12_undo 35 = .ok (.putfield 88, 3)) ∧ (decode cX12_undo 38 = .ok (.aload_n 0, 1)))) ∧ (((decode cX12_undo 39 = .ok (.aload_n 0, 1)) ∧ (decode cX12_undo 40 = .ok (.getfield 32, 3))) ∧ ((decode cX12_undo 43 = .ok (.aload_n 0, 1)) ∧ (decode cX12_undo 44 = .ok (.getfield 102, 3))))) ∧ ((((decode cX12_undo 47 = .ok (.iaload, 1)) ∧ (decode cX12_undo 48 = .ok (.putfield 95, 3))) ∧ ((decode cX12_undo 51 = .ok (.iconst 0, 1)) ∧ (decode cX12_undo 52 = .ok (.istore_n 1, 1)))) ∧ (((decode cX12_undo 53 = .ok (.iload_n 1, 1)) ∧ (decode cX12_undo 54 = .ok (.bipush 40, 2))) ∧ ((decode cX12_undo 56 = .ok (.if_icmp .ge 119, 3)) ∧ (decode cX12_undo 59 = .ok (.sipush 200, 3))))) := by first | decide +kernel | ((repeat' apply And.intro) <;> decide +kernel)
theorem dX12_undo_31 : decode cX12_undo 31 = .ok (.getfield 102, 3) := dB_3_0_47.1.1.1.1
theorem dX12_undo_34 : decode cX12_undo 34 = .ok (.iaload, 1) := dB_3_0_47.1.1.1.2
theorem dX12_undo_35 : decode cX12_undo 35 = .ok (.putfield 88, 3) := dB_3_0_47.1.1.2.1
theorem dX12_undo_38 : decode cX12_undo 38 = .ok (.aload_n 0, 1) := dB_3_0_47.1.1.2.2
theorem dX12_undo_39 : decode cX12_undo 39 = .ok (.aload_n 0, 1) := dB_3_0_47.1.2.1.1
theorem dX12_undo_40 : decode cX12_undo 40 = .ok (.getfield 32, 3) := dB_3_0_47.1.2.1.2
theorem dX12_undo_43 : decode cX12_undo 43 = .ok (.aload_n 0, 1) := dB_3_0_47.1.2.2.1
theorem dX12_undo_44 : decode cX12_undo 44 = .ok (.getfield 102, 3) := dB_3_0_47.1.2.2.2
theorem dX12_undo_47 : decode cX12_undo 47 = .ok (.iaload, 1) := dB_3_0_47.2.1.1.1
theorem dX12_undo_48 : decode cX12_undo 48 = .ok (.putfield 95, 3) := dB_3_0_47.2.1.1.2
theorem dX12_undo_51 : decode cX12_undo 51 = .ok (.iconst 0, 1) := dB_3_0_47.2.1.2.1
theorem dX12_undo_52 : decode cX12_undo 52 = .ok (.istore_n 1, 1) := dB_3_0_47.2.1.2.2
theorem dX12_undo_53 : decode cX12_undo 53 = .ok (.iload_n 1, 1) := dB_3_0_47.2.2.1.1
theorem dX12_undo_54 : decode cX12_undo 54 = .ok (.bipush 40, 2) := dB_3_0_47.2.2.1.2
theorem dX12_undo_56 : decode cX12_undo 56 = .ok (.if_icmp .ge 119, 3) := dB_3_0_47.2.2.2.1
theorem dX12_undo_59 : decode cX12_undo 59 = .ok (.sipush 200, 3) := dB_3_0_47.2.2.2.2
theorem dB_3_0_48 : ((((decode cX12_undo 62 = .ok (.aload_n 0, 1)) ∧ (decode cX12_undo 63 = .ok (.getfield 102, 3))) ∧ ((decode cX12_undo 66 = .ok (.imul, 1)) ∧ (decode cX12_undo 67 = .ok (.iconst 5, 1)))) ∧ (((decode cX12_undo 68 = .ok (.iload_n 1, 1)) ∧ (decode cX12_undo 69 = .ok (.imul, 1))) ∧ ((decode cX12_undo 70 = .ok (.iadd, 1)) ∧ (decode cX12_undo 71 = .ok (.istore_n 2, 1))))) ∧ ((((decode cX12_undo 72 = .ok (.aload_n 0, 1)) ∧ (decode cX12_undo 73 = .ok (.getfield 7, 3))) ∧ ((decode cX12_undo 76 = .ok (.iload_n 1, 1)) ∧ (decode cX12_undo 77 = .ok (.aload_n 0, 1)))) ∧ (((decode cX12_undo 78 = .ok (.getfield 35, 3)) ∧ (decode cX12_undo 81 = .ok (.iload_n 2, 1))) ∧ ((decode cX12_undo 82 = .ok (.iaload, 1)) ∧ (decode cX12_undo 83 = .ok (.iastore, 1))))) := by first | decide +kernel | ((repeat' apply And.intro) <;> decide +kernel)
theorem dX12_undo_62 : decode cX12_undo 62 = .ok (.aload_n 0, 1) := dB_3_0_48.1.1.1.1
theorem dX12_undo_63 : decode cX12_undo 63 = .ok (.getfield 102, 3) := dB_3_0_48.1.1.1.2
theorem dX12_undo_66 : decode cX12_undo 66 = .ok (.imul, 1) := dB_3_0_48.1.1.2.1
theorem dX12_undo_67 : decode cX12_undo 67 = .ok (.iconst 5, 1) := dB_3_0_48.1.1.2.2
theorem dX12_undo_68 : decode cX12_undo 68 = .ok (.iload_n 1, 1) := dB_3_0_48.1.2.1.1
theorem dX12_undo_69 : decode cX12_undo 69 = .ok (.imul, 1) := dB_3_0_48.1.2.1.2
theorem dX12_undo_70 : decode cX12_undo 70 = .ok (.iadd, 1) := dB_3_0_48.1.2.2.1
theorem dX12_undo_71 : decode cX12_undo 71 = .ok (.istore_n 2, 1) := dB_3_0_48.1.2.2.2
theorem dX12_undo_72 : decode cX12_undo 72 = .ok (.aload_n 0, 1) := dB_3_0_48.2.1.1.1
theorem dX12_undo_73 : decode cX12_undo 73 = .ok (.getfield 7, 3) := dB_3_0_48.2.1.1.2
theorem dX12_undo_76 : decode cX12_undo 76 = .ok (.iload_n 1, 1) := dB_3_0_48.2.1.2.1
theorem dX12_undo_77 : decode cX12_undo 77 = .ok (.aload_n 0, 1) := dB_3_0_48.2.1.2.2
theorem dX12_undo_78 : decode cX12_undo 78 = .ok (.getfield 35, 3) := dB_3_0_48.2.2.1.1
theorem dX12_undo_81 : decode cX12_undo 81 = .ok (.iload_n 2, 1) := dB_3_0_48.2.2.1.2
theorem dX12_undo_82 : decode cX12_undo 82 = .ok (.iaload, 1) := dB_3_0_48.2.2.2.1
theorem dX12_undo_83 : decode cX12_undo 83 = .ok (.iastore, 1) := dB_3_0_48.2.2.2.2
theorem dB_3_0_49 : ((((decode cX12_undo 84 = .ok (.aload_n 0, 1)) ∧ (decode cX12_undo 85 = .ok (.getfield 13, 3))) ∧ ((decode cX12_undo 88 = .ok (.iload_n 1, 1)) ∧ (decode cX12_undo 89 = .ok (.aload_n 0, 1)))) ∧ (((decode cX12_undo 90 = .ok (.getfield 35, 3)) ∧ (decode cX12_undo 93 = .ok (.iload_n 2, 1))) ∧ ((decode cX12_undo 94 = .ok (.iconst 1, 1)) ∧ (decode cX12_undo 95 = .ok (.iadd, 1))))) ∧ ((((decode cX12_undo 96 = .ok (.iaload, 1)) ∧ (decode cX12_undo 97 = .ok (.iastore, 1))) ∧ ((decode cX12_undo 98 = .ok (.aload_n 0, 1)) ∧ (decode cX12_undo 99 = .ok (.getfield 16, 3)))) ∧ (((decode cX12_undo 102 = .ok (.iload_n 1, 1)) ∧ (decode cX12_undo 103 = .ok (.aload_n 0, 1))) ∧ ((decode cX12_undo 104 = .ok (.getfield 35, 3)) ∧ (decode cX12_undo 107 = .ok (.iload_n 2, 1))))) := by first | decide +kernel | ((repeat' apply And.intro) <;> decide +kernel)
theorem dX12_undo_84 : decode cX12_undo 84 = .ok (.aload_n 0, 1) := dB_3_0_49.1.1.1.1
theorem dX12_undo_85 : decode cX12_undo 85 = .ok (.getfield 13, 3) := dB_3_0_49.1.1.1.2
theorem dX12_undo_88 : decode cX12_undo 88 = .ok (.iload_n 1, 1) := dB_3_0_49.1.1.2.1
theorem dX12_undo_89 : decode cX12_undo 89 = .ok (.aload_n 0, 1) := dB_3_0_49.1.1.2.2
theorem dX12_undo_90 : decode cX12_undo 90 = .ok (.getfield 35, 3) := dB_3_0_49.1.2.1.1
theorem dX12_undo_93 : decode cX12_undo 93 = .ok (.iload_n 2, 1) := dB_3_0_49.1.2.1.2
theorem dX12_undo_94 : decode cX12_undo 94 = .ok (.iconst 1, 1) := dB_3_0_49.1.2.2.1
theorem dX12_undo_95 : decode cX12_undo 95 = .ok (.iadd, 1) := dB_3_0_49.1.2.2.2
theorem dX12_undo_96 : decode cX12_undo 96 = .ok (.iaload, 1) := dB_3_0_49.2.1.1.1
theorem dX12_undo_97 : decode cX12_undo 97 = .ok (.iastore, 1) := dB_3_0_49.2.1.1.2
theorem dX12_undo_98 : decode cX12_undo 98 = .ok (.aload_n 0, 1) := dB_3_0_49.2.1.2.1
theorem dX12_undo_99 : decode cX12_undo 99 = .ok (.getfield 16, 3) := dB_3_0_49.2.1.2.2
theorem dX12_undo_102 : decode cX12_undo 102 = .ok (.iload_n 1, 1) := dB_3_0_49.2.2.1.1
theorem dX12_undo_103 : decode cX12_undo 103 = .ok (.aload_n 0, 1) := dB_3_0_49.2.2.1.2
theorem dX12_undo_104 : decode cX12_undo 104 = .ok (.getfield 35, 3) := dB_3_0_49.2.2.2.1
theorem dX12_undo_107 : decode cX12_undo 107 = .ok (.iload_n 2, 1) := dB_3_0_49.2.2.2.2
theorem dB_3_0_50 : ((((decode cX12_undo 108 = .ok (.iconst 2, 1)) ∧ (decode cX12_undo 109 = .ok (.iadd, 1))) ∧ ((decode cX12_undo 110 = .ok (.iaload, 1)) ∧ (decode cX12_undo 111 = .ok (.iastore, 1)))) ∧ (((decode cX12_undo 112 = .ok (.aload_n 0, 1)) ∧ (decode cX12_undo 113 = .ok (.getfield 19, 3))) ∧ ((decode cX12_undo 116 = .ok (.iload_n 1, 1)) ∧ (decode cX12_undo 117 = .ok (.aload_n 0, 1))))) ∧ ((((decode cX12_undo 118 = .ok (.getfield 35, 3)) ∧ (decode cX12_undo 121 = .ok (.iload_n 2, 1))) ∧ ((decode cX12_undo 122 = .ok (.iconst 3, 1)) ∧ (decode cX12_undo 123 = .ok (.iadd, 1)))) ∧ (((decode cX12_undo 124 = .ok (.iaload, 1)) ∧ (decode cX12_undo 125 = .ok (.iastore, 1))) ∧ ((decode cX12_undo 126 = .ok (.aload_n 0, 1)) ∧ (decode cX12_undo 127 = .ok (.getfield 22, 3))))) := by first | decide +kernel | ((repeat' apply And.intro) <;> decide +kernel)
theorem dX12_undo_108 : decode cX12_undo 108 = .ok (.iconst 2, 1) := dB_3_0_50.1.1.1.1
theorem dX12_undo_109 : decode cX12_undo 109 = .ok (.iadd, 1) := dB_3_0_50.1.1.1.2
theorem dX12_undo_110 : decode cX12_undo 110 = .ok (.iaload, 1) := dB_3_0_50.1.1.2.1
theorem dX12_undo_111 : decode cX12_undo 111 = .ok (.iastore, 1) := dB_3_0_50.1.1.2.2
theorem dX12_undo_112 : decode cX12_undo 112 = .ok (.aload_n 0, 1) := dB_3_0_50.1.2.1.1
theorem dX12_undo_113 : decode cX12_undo 113 = .ok (.getfield 19, 3) := dB_3_0_50.1.2.1.2
theorem dX12_undo_116 : decode cX12_undo 116 = .ok (.iload_n 1, 1) := dB_3_0_50.1.2.2.1
theorem dX12_undo_117 : decode cX12_undo 117 = .ok (.aload_n 0, 1) := dB_3_0_50.1.2.2.2
theorem dX12_undo_118 : decode cX12_undo 118 = .ok (.getfield 35, 3) := dB_3_0_50.2.1.1.1
theorem dX12_undo_121 : decode cX12_undo 121 = .ok (.iload_n 2, 1) := dB_3_0_50.2.1.1.2
theorem dX12_undo_122 : decode cX12_undo 122 = .ok (.iconst 3, 1) := dB_3_0_50.2.1.2.1
theorem dX12_undo_123 : decode cX12_undo 123 = .ok (.iadd, 1) := dB_3_0_50.2.1.2.2
theorem dX12_undo_124 : decode cX12_undo 124 = .ok (.iaload, 1) := dB_3_0_50.2.2.1.1
theorem dX12_undo_125 : decode cX12_undo 125 = .ok (.iastore, 1) := dB_3_0_50.2.2.1.2
theorem dX12_undo_126 : decode cX12_undo 126 = .ok (.aload_n 0, 1) := dB_3_0_50.2.2.2.1
theorem dX12_undo_127 : decode cX12_undo 127 = .ok (.getfield 22, 3) := dB_3_0_50.2.2.2.2
theorem dB_3_0_51 : ((((decode cX12_undo 130 = .ok (.iload_n 1, 1)) ∧ (decode cX12_undo 131 = .ok (.aload_n 0, 1))) ∧ ((decode cX12_undo 132 = .ok (.getfield 35, 3)) ∧ (decode cX12_undo 135 = .ok (.iload_n 2, 1)))) ∧ (((decode cX12_undo 136 = .ok (.iconst 4, 1)) ∧ (decode cX12_undo 137 = .ok (.iadd, 1))) ∧ ((decode cX12_undo 138 = .ok (.iaload, 1)) ∧ (decode cX12_undo 139 = .ok (.sipush 1000, 3))))) ∧ ((((decode cX12_undo 142 = .ok (.irem, 1)) ∧ (decode cX12_undo 143 = .ok (.iastore, 1))) ∧ ((decode cX12_undo 144 = .ok (.aload_n 0, 1)) ∧ (decode cX12_undo 145 = .ok (.getfield 25, 3)))) ∧ (((decode cX12_undo 148 = .ok (.iload_n 1, 1)) ∧ (decode cX12_undo 149 = .ok (.aload_n 0, 1))) ∧ ((decode cX12_undo 150 = .ok (.getfield 35, 3)) ∧ (decode cX12_undo 153 = .ok (.iload_n 2, 1))))) := by first | decide +kernel | ((repeat' apply And.intro) <;> decide +kernel)
theorem dX12_undo_130 : decode cX12_undo 130 = .ok (.iload_n 1, 1) := dB_3_0_51.1.1.1.1
theorem dX12_undo_131 : decode cX12_undo 131 = .ok (.aload_n 0, 1) := dB_3_0_51.1.1.1.2
theorem dX12_undo_132 : decode cX12_undo 132 = .ok (.getfield 35, 3) := dB_3_0_51.1.1.2.1
theorem dX12_undo_135 : decode cX12_undo 135 = .ok (.iload_n 2, 1) := dB_3_0_51.1.1.2.2
theorem dX12_undo_136 : decode cX12_undo 136 = .ok (.iconst 4, 1) := dB_3_0_51.1.2.1.1
theorem dX12_undo_137 : decode cX12_undo 137 = .ok (.iadd, 1) := dB_3_0_51.1.2.1.2
theorem dX12_undo_138 : decode cX12_undo 138 = .ok (.iaload, 1) := dB_3_0_51.1.2.2.1
theorem dX12_undo_139 : decode cX12_undo 139 = .ok (.sipush 1000, 3) := dB_3_0_51.1.2.2.2
theorem dX12_undo_142 : decode cX12_undo 142 = .ok (.irem, 1) := dB_3_0_51.2.1.1.1
theorem dX12_undo_143 : decode cX12_undo 143 = .ok (.iastore, 1) := dB_3_0_51.2.1.1.2
theorem dX12_undo_144 : decode cX12_undo 144 = .ok (.aload_n 0, 1) := dB_3_0_51.2.1.2.1
theorem dX12_undo_145 : decode cX12_undo 145 = .ok (.getfield 25, 3) := dB_3_0_51.2.1.2.2
theorem dX12_undo_148 : decode cX12_undo 148 = .ok (.iload_n 1, 1) := dB_3_0_51.2.2.1.1
theorem dX12_undo_149 : decode cX12_undo 149 = .ok (.aload_n 0, 1) := dB_3_0_51.2.2.1.2
theorem dX12_undo_150 : decode cX12_undo 150 = .ok (.getfield 35, 3) := dB_3_0_51.2.2.2.1
theorem dX12_undo_153 : decode cX12_undo 153 = .ok (.iload_n 2, 1) := dB_3_0_51.2.2.2.2
theorem dB_3_0_52 : ((((decode cX12_undo 154 = .ok (.iconst 4, 1)) ∧ (decode cX12_undo 155 = .ok (.iadd, 1))) ∧ ((decode cX12_undo 156 = .ok (.iaload, 1)) ∧ (decode cX12_undo 157 = .ok (.sipush 999, 3)))) ∧ (((decode cX12_undo 160 = .ok (.if_icmp .le 7, 3)) ∧ (decode cX12_undo 163 = .ok (.iconst 1, 1))) ∧ ((decode cX12_undo 164 = .ok (.goto 4, 3)) ∧ (decode cX12_undo 167 = .ok (.iconst 0, 1))))) ∧ ((((decode cX12_undo 168 = .ok (.bastore, 1)) ∧ (decode cX12_undo 169 = .ok (.iinc 1 1, 3))) ∧ ((decode cX12_undo 172 = .ok (.goto (-119), 3)) ∧ (decode cX12_undo 175 = .ok (.aload_n 0, 1)))) ∧ (((decode cX12_undo 176 = .ok (.getfield 102, 3)) ∧ (decode cX12_undo 179 = .ok (.ireturn, 1))) ∧ ((decode cX12_told 0 = .ok (.aload_n 0, 1)) ∧ (decode cX12_told 1 = .ok (.iconst 0, 1))))) := by first | decide +kernel | ((repeat' apply And.intro) <;> decide +kernel)
theorem dX12_undo_154 : decode cX12_undo 154 = .ok (.iconst 4, 1) := dB_3_0_52.1.1.1.1
theorem dX12_undo_155 : decode cX12_undo 155 = .ok (.iadd, 1) := dB_3_0_52.1.1.1.2
theorem dX12_undo_156 : decode cX12_undo 156 = .ok (.iaload, 1) := dB_3_0_52.1.1.2.1
theorem dX12_undo_157 : decode cX12_undo 157 = .ok (.sipush 999, 3) := dB_3_0_52.1.1.2.2
theorem dX12_undo_160 : decode cX12_undo 160 = .ok (.if_icmp .le 7, 3) := dB_3_0_52.1.2.1.1
theorem dX12_undo_163 : decode cX12_undo 163 = .ok (.iconst 1, 1) := dB_3_0_52.1.2.1.2
theorem dX12_undo_164 : decode cX12_undo 164 = .ok (.goto 4, 3) := dB_3_0_52.1.2.2.1
theorem dX12_undo_167 : decode cX12_undo 167 = .ok (.iconst 0, 1) := dB_3_0_52.1.2.2.2
theorem dX12_undo_168 : decode cX12_undo 168 = .ok (.bastore, 1) := dB_3_0_52.2.1.1.1
theorem dX12_undo_169 : decode cX12_undo 169 = .ok (.iinc 1 1, 3) := dB_3_0_52.2.1.1.2
theorem dX12_undo_172 : decode cX12_undo 172 = .ok (.goto (-119), 3) := dB_3_0_52.2.1.2.1
theorem dX12_undo_175 : decode cX12_undo 175 = .ok (.aload_n 0, 1) := dB_3_0_52.2.1.2.2
theorem dX12_undo_176 : decode cX12_undo 176 = .ok (.getfield 102, 3) := dB_3_0_52.2.2.1.1
theorem dX12_undo_179 : decode cX12_undo 179 = .ok (.ireturn, 1) := dB_3_0_52.2.2.1.2
theorem dX12_told_0 : decode cX12_told 0 = .ok (.aload_n 0, 1) := dB_3_0_52.2.2.2.1
theorem dX12_told_1 : decode cX12_told 1 = .ok (.iconst 0, 1) := dB_3_0_52.2.2.2.2
theorem dB_3_0_53 : ((((decode cX12_told 2 = .ok (.putfield 85, 3)) ∧ (decode cX12_told 5 = .ok (.aload_n 0, 1))) ∧ ((decode cX12_told 6 = .ok (.iload_n 1, 1)) ∧ (decode cX12_told 7 = .ok (.invokevirtual 132, 3)))) ∧ (((decode cX12_told 10 = .ok (.ifCond .eq 15, 3)) ∧ (decode cX12_told 13 = .ok (.iload_n 2, 1))) ∧ ((decode cX12_told 14 = .ok (.i2l, 1)) ∧ (decode cX12_told 15 = .ok (.lconst 0, 1))))) ∧ ((((decode cX12_told 16 = .ok (.ldc2_w 147, 3)) ∧ (decode cX12_told 19 = .ok (.invokestatic 91, 3))) ∧ ((decode cX12_told 22 = .ok (.ifCond .ne 5, 3)) ∧ (decode cX12_told 25 = .ok (.iconst (-1), 1)))) ∧ (((decode cX12_told 26 = .ok (.ireturn, 1)) ∧ (decode cX12_told 27 = .ok (.aload_n 0, 1))) ∧ ((decode cX12_told 28 = .ok (.getfield 25, 3)) ∧ (decode cX12_told 31 = .ok (.iload_n 1, 1))))) := by first | decide +kernel | ((repeat' apply And.intro) <;> decide +kernel)
theorem dX12_told_2 : decode cX12_told 2 = .ok (.putfield 85, 3) := dB_3_0_53.1.1.1.1
theorem dX12_told_5 : decode cX12_told 5 = .ok (.aload_n 0, 1) := dB_3_0_53.1.1.1.2
theorem dX12_told_6 : decode cX12_told 6 = .ok (.iload_n 1, 1) := dB_3_0_53.1.1.2.1
theorem dX12_told_7 : decode cX12_told 7 = .ok (.invokevirtual 132, 3) := dB_3_0_53.1.1.2.2
theorem dX12_told_10 : decode cX12_told 10 = .ok (.ifCond .eq 15, 3) := dB_3_0_53.1.2.1.1
theorem dX12_told_13 : decode cX12_told 13 = .ok (.iload_n 2, 1) := dB_3_0_53.1.2.1.2
theorem dX12_told_14 : decode cX12_told 14 = .ok (.i2l, 1) := dB_3_0_53.1.2.2.1
theorem dX12_told_15 : decode cX12_told 15 = .ok (.lconst 0, 1) := dB_3_0_53.1.2.2.2
theorem dX12_told_16 : decode cX12_told 16 = .ok (.ldc2_w 147, 3) := dB_3_0_53.2.1.1.1
theorem dX12_told_19 : decode cX12_told 19 = .ok (.invokestatic 91, 3) := dB_3_0_53.2.1.1.2
theorem dX12_told_22 : decode cX12_told 22 = .ok (.ifCond .ne 5, 3) := dB_3_0_53.2.1.2.1
theorem dX12_told_25 : decode cX12_told 25 = .ok (.iconst (-1), 1) := dB_3_0_53.2.1.2.2
theorem dX12_told_26 : decode cX12_told 26 = .ok (.ireturn, 1) := dB_3_0_53.2.2.1.1
theorem dX12_told_27 : decode cX12_told 27 = .ok (.aload_n 0, 1) := dB_3_0_53.2.2.1.2
theorem dX12_told_28 : decode cX12_told 28 = .ok (.getfield 25, 3) := dB_3_0_53.2.2.2.1
theorem dX12_told_31 : decode cX12_told 31 = .ok (.iload_n 1, 1) := dB_3_0_53.2.2.2.2
theorem dB_3_0_54 : ((((decode cX12_told 32 = .ok (.baload, 1)) ∧ (decode cX12_told 33 = .ok (.istore_n 3, 1))) ∧ ((decode cX12_told 34 = .ok (.iload_n 2, 1)) ∧ (decode cX12_told 35 = .ok (.ifCond .ne 12, 3)))) ∧ (((decode cX12_told 38 = .ok (.aload_n 0, 1)) ∧ (decode cX12_told 39 = .ok (.getfield 7, 3))) ∧ ((decode cX12_told 42 = .ok (.iload_n 1, 1)) ∧ (decode cX12_told 43 = .ok (.iaload, 1))))) ∧ ((((decode cX12_told 44 = .ok (.goto 86, 3)) ∧ (decode cX12_told 47 = .ok (.iload_n 2, 1))) ∧ ((decode cX12_told 48 = .ok (.iconst 1, 1)) ∧ (decode cX12_told 49 = .ok (.if_icmp .ne 21, 3)))) ∧ (((decode cX12_told 52 = .ok (.iload_n 3, 1)) ∧ (decode cX12_told 53 = .ok (.ifCond .eq 8, 3))) ∧ ((decode cX12_told 56 = .ok (.bipush (-9), 2)) ∧ (decode cX12_told 58 = .ok (.goto 72, 3))))) := by first | decide +kernel | ((repeat' apply And.intro) <;> decide +kernel)
theorem dX12_told_32 : decode cX12_told 32 = .ok (.baload, 1) := dB_3_0_54.1.1.1.1
theorem dX12_told_33 : decode cX12_told 33 = .ok (.istore_n 3, 1) := dB_3_0_54.1.1.1.2
theorem dX12_told_34 : decode cX12_told 34 = .ok (.iload_n 2, 1) := dB_3_0_54.1.1.2.1
theorem dX12_told_35 : decode cX12_told 35 = .ok (.ifCond .ne 12, 3) := dB_3_0_54.1.1.2.2
theorem dX12_told_38 : decode cX12_told 38 = .ok (.aload_n 0, 1) := dB_3_0_54.1.2.1.1
theorem dX12_told_39 : decode cX12_told 39 = .ok (.getfield 7, 3) := dB_3_0_54.1.2.1.2
theorem dX12_told_42 : decode cX12_told 42 = .ok (.iload_n 1, 1) := dB_3_0_54.1.2.2.1
theorem dX12_told_43 : decode cX12_told 43 = .ok (.iaload, 1) := dB_3_0_54.1.2.2.2
theorem dX12_told_44 : decode cX12_told 44 = .ok (.goto 86, 3) := dB_3_0_54.2.1.1.1
theorem dX12_told_47 : decode cX12_told 47 = .ok (.iload_n 2, 1) := dB_3_0_54.2.1.1.2
theorem dX12_told_48 : decode cX12_told 48 = .ok (.iconst 1, 1) := dB_3_0_54.2.1.2.1
theorem dX12_told_49 : decode cX12_told 49 = .ok (.if_icmp .ne 21, 3) := dB_3_0_54.2.1.2.2
theorem dX12_told_52 : decode cX12_told 52 = .ok (.iload_n 3, 1) := dB_3_0_54.2.2.1.1
theorem dX12_told_53 : decode cX12_told 53 = .ok (.ifCond .eq 8, 3) := dB_3_0_54.2.2.1.2
theorem dX12_told_56 : decode cX12_told 56 = .ok (.bipush (-9), 2) := dB_3_0_54.2.2.2.1
theorem dX12_told_58 : decode cX12_told 58 = .ok (.goto 72, 3) := dB_3_0_54.2.2.2.2
theorem dB_3_0_55 : ((((decode cX12_told 61 = .ok (.aload_n 0, 1)) ∧ (decode cX12_told 62 = .ok (.getfield 13, 3))) ∧ ((decode cX12_told 65 = .ok (.iload_n 1, 1)) ∧ (decode cX12_told 66 = .ok (.iaload, 1)))) ∧ (((decode cX12_told 67 = .ok (.goto 63, 3)) ∧ (decode cX12_told 70 = .ok (.iload_n 2, 1))) ∧ ((decode cX12_told 71 = .ok (.iconst 2, 1)) ∧ (decode cX12_told 72 = .ok (.if_icmp .ne 21, 3))))) ∧ ((((decode cX12_told 75 = .ok (.iload_n 3, 1)) ∧ (decode cX12_told 76 = .ok (.ifCond .eq 8, 3))) ∧ ((decode cX12_told 79 = .ok (.bipush (-9), 2)) ∧ (decode cX12_told 81 = .ok (.goto 49, 3)))) ∧ (((decode cX12_told 84 = .ok (.aload_n 0, 1)) ∧ (decode cX12_told 85 = .ok (.getfield 16, 3))) ∧ ((decode cX12_told 88 = .ok (.iload_n 1, 1)) ∧ (decode cX12_told 89 = .ok (.iaload, 1))))) := by first | decide +kernel | ((repeat' apply And.intro) <;> decide +kernel)
theorem dX12_told_61 : decode cX12_told 61 = .ok (.aload_n 0, 1) := dB_3_0_55.1.1.1.1
theorem dX12_told_62 : decode cX12_told 62 = .ok (.getfield 13, 3) := dB_3_0_55.1.1.1.2
theorem dX12_told_65 : decode cX12_told 65 = .ok (.iload_n 1, 1) := dB_3_0_55.1.1.2.1
theorem dX12_told_66 : decode cX12_told 66 = .ok (.iaload, 1) := dB_3_0_55.1.1.2.2
theorem dX12_told_67 : decode cX12_told 67 = .ok (.goto 63, 3) := dB_3_0_55.1.2.1.1
theorem dX12_told_70 : decode cX12_told 70 = .ok (.iload_n 2, 1) := dB_3_0_55.1.2.1.2
theorem dX12_told_71 : decode cX12_told 71 = .ok (.iconst 2, 1) := dB_3_0_55.1.2.2.1
theorem dX12_told_72 : decode cX12_told 72 = .ok (.if_icmp .ne 21, 3) := dB_3_0_55.1.2.2.2
theorem dX12_told_75 : decode cX12_told 75 = .ok (.iload_n 3, 1) := dB_3_0_55.2.1.1.1
theorem dX12_told_76 : decode cX12_told 76 = .ok (.ifCond .eq 8, 3) := dB_3_0_55.2.1.1.2
theorem dX12_told_79 : decode cX12_told 79 = .ok (.bipush (-9), 2) := dB_3_0_55.2.1.2.1
theorem dX12_told_81 : decode cX12_told 81 = .ok (.goto 49, 3) := dB_3_0_55.2.1.2.2
theorem dX12_told_84 : decode cX12_told 84 = .ok (.aload_n 0, 1) := dB_3_0_55.2.2.1.1
theorem dX12_told_85 : decode cX12_told 85 = .ok (.getfield 16, 3) := dB_3_0_55.2.2.1.2
theorem dX12_told_88 : decode cX12_told 88 = .ok (.iload_n 1, 1) := dB_3_0_55.2.2.2.1
theorem dX12_told_89 : decode cX12_told 89 = .ok (.iaload, 1) := dB_3_0_55.2.2.2.2
theorem dB_3_0_56 : ((decode cX12_told 90 = .ok (.goto 40, 3)) ∧ (decode cX12_told 93 = .ok (.iload_n 2, 1))) ∧ ((decode cX12_told 94 = .ok (.iconst 3, 1)) ∧ (decode cX12_told 95 = .ok (.if_icmp .ne 12, 3))) := by first | decide +kernel | ((repeat' apply And.intro) <;> decide +kernel)
theorem dX12_told_90 : decode cX12_told 90 = .ok (.goto 40, 3) := dB_3_0_56.1.1
theorem dX12_told_93 : decode cX12_told 93 = .ok (.iload_n 2, 1) := dB_3_0_56.1.2
theorem dX12_told_94 : decode cX12_told 94 = .ok (.iconst 3, 1) := dB_3_0_56.2.1
theorem dX12_told_95 : decode cX12_told 95 = .ok (.if_icmp .ne 12, 3) := dB_3_0_56.2.2
