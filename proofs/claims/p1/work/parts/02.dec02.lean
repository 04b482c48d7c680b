theorem dX11_lineRefusal_2 : decode cX11_lineRefusal 2 = .ok (.lcmp, 1) := by decide +kernel
theorem dX11_lineRefusal_3 : decode cX11_lineRefusal 3 = .ok (.ifCond .lt 24, 3) := by decide +kernel
theorem dX11_lineRefusal_6 : decode cX11_lineRefusal 6 = .ok (.lload_n 1, 1) := by decide +kernel
theorem dX11_lineRefusal_7 : decode cX11_lineRefusal 7 = .ok (.ldc2_w 300, 3) := by decide +kernel
theorem dX11_lineRefusal_10 : decode cX11_lineRefusal 10 = .ok (.lcmp, 1) := by decide +kernel
theorem dX11_lineRefusal_11 : decode cX11_lineRefusal 11 = .ok (.ifCond .ge 16, 3) := by decide +kernel
theorem dX11_lineRefusal_14 : decode cX11_lineRefusal 14 = .ok (.aload_n 0, 1) := by decide +kernel
theorem dX11_lineRefusal_15 : decode cX11_lineRefusal 15 = .ok (.getfield 31, 3) := by decide +kernel
theorem dX11_lineRefusal_18 : decode cX11_lineRefusal 18 = .ok (.lload_n 3, 1) := by decide +kernel
theorem dX11_lineRefusal_19 : decode cX11_lineRefusal 19 = .ok (.lload 5, 2) := by decide +kernel
theorem dX11_lineRefusal_21 : decode cX11_lineRefusal 21 = .ok (.invokevirtual 135, 3) := by decide +kernel
theorem dX11_lineRefusal_24 : decode cX11_lineRefusal 24 = .ok (.ifCond .ne 5, 3) := by decide +kernel
theorem dX11_lineRefusal_27 : decode cX11_lineRefusal 27 = .ok (.iconst (-1), 1) := by decide +kernel
theorem dX11_lineRefusal_28 : decode cX11_lineRefusal 28 = .ok (.ireturn, 1) := by decide +kernel
theorem dX11_isMapNumber_0 : decode cX11_isMapNumber 0 = .ok (.iload_n 0, 1) := by decide +kernel
theorem dX11_isMapNumber_1 : decode cX11_isMapNumber 1 = .ok (.ifCond .lt 12, 3) := by decide +kernel
theorem dX11_isMapNumber_4 : decode cX11_isMapNumber 4 = .ok (.iload_n 0, 1) := by decide +kernel
theorem dX11_isMapNumber_5 : decode cX11_isMapNumber 5 = .ok (.iconst 4, 1) := by decide +kernel
theorem dX11_isMapNumber_6 : decode cX11_isMapNumber 6 = .ok (.if_icmp .ge 7, 3) := by decide +kernel
theorem dX11_isMapNumber_9 : decode cX11_isMapNumber 9 = .ok (.iconst 1, 1) := by decide +kernel
theorem dX11_isMapNumber_10 : decode cX11_isMapNumber 10 = .ok (.goto 4, 3) := by decide +kernel
theorem dX11_isMapNumber_13 : decode cX11_isMapNumber 13 = .ok (.iconst 0, 1) := by decide +kernel
theorem dX11_isMapNumber_14 : decode cX11_isMapNumber 14 = .ok (.ireturn, 1) := by decide +kernel
theorem dX11_isMapKind_0 : decode cX11_isMapKind 0 = .ok (.iload_n 0, 1) := by decide +kernel
theorem dX11_isMapKind_1 : decode cX11_isMapKind 1 = .ok (.ifCond .lt 12, 3) := by decide +kernel
theorem dX11_isMapKind_4 : decode cX11_isMapKind 4 = .ok (.iload_n 0, 1) := by decide +kernel
theorem dX11_isMapKind_5 : decode cX11_isMapKind 5 = .ok (.iconst 3, 1) := by decide +kernel
theorem dX11_isMapKind_6 : decode cX11_isMapKind 6 = .ok (.if_icmp .ge 7, 3) := by decide +kernel
theorem dX11_isMapKind_9 : decode cX11_isMapKind 9 = .ok (.iconst 1, 1) := by decide +kernel
theorem dX11_isMapKind_10 : decode cX11_isMapKind 10 = .ok (.goto 4, 3) := by decide +kernel
theorem dX11_isMapKind_13 : decode cX11_isMapKind 13 = .ok (.iconst 0, 1) := by decide +kernel
theorem dX11_isMapKind_14 : decode cX11_isMapKind 14 = .ok (.ireturn, 1) := by decide +kernel
theorem dX11_mapRefusal_0 : decode cX11_mapRefusal 0 = .ok (.iload_n 0, 1) := by decide +kernel
theorem dX11_mapRefusal_1 : decode cX11_mapRefusal 1 = .ok (.invokestatic 267, 3) := by decide +kernel
theorem dX11_mapRefusal_4 : decode cX11_mapRefusal 4 = .ok (.ifCond .eq 16, 3) := by decide +kernel
theorem dX11_mapRefusal_7 : decode cX11_mapRefusal 7 = .ok (.iload_n 1, 1) := by decide +kernel
theorem dX11_mapRefusal_8 : decode cX11_mapRefusal 8 = .ok (.invokestatic 312, 3) := by decide +kernel
theorem dX11_mapRefusal_11 : decode cX11_mapRefusal 11 = .ok (.ifCond .eq 9, 3) := by decide +kernel
theorem dX11_mapRefusal_14 : decode cX11_mapRefusal 14 = .ok (.iload_n 2, 1) := by decide +kernel
theorem dX11_mapRefusal_15 : decode cX11_mapRefusal 15 = .ok (.bipush 6, 2) := by decide +kernel
theorem dX11_mapRefusal_17 : decode cX11_mapRefusal 17 = .ok (.if_icmp .le 5, 3) := by decide +kernel
theorem dX11_mapRefusal_20 : decode cX11_mapRefusal 20 = .ok (.iconst (-1), 1) := by decide +kernel
theorem dX11_mapRefusal_21 : decode cX11_mapRefusal 21 = .ok (.ireturn, 1) := by decide +kernel
theorem dX11_mapRefusal_22 : decode cX11_mapRefusal 22 = .ok (.iload_n 2, 1) := by decide +kernel
theorem dX11_mapRefusal_23 : decode cX11_mapRefusal 23 = .ok (.ifCond .ge 8, 3) := by decide +kernel
theorem dX11_mapRefusal_26 : decode cX11_mapRefusal 26 = .ok (.bipush (-15), 2) := by decide +kernel
theorem dX11_mapRefusal_28 : decode cX11_mapRefusal 28 = .ok (.goto 4, 3) := by decide +kernel
theorem dX11_mapRefusal_31 : decode cX11_mapRefusal 31 = .ok (.iconst 0, 1) := by decide +kernel
theorem dX11_mapRefusal_32 : decode cX11_mapRefusal 32 = .ok (.ireturn, 1) := by decide +kernel
theorem dX11_rowRefusal_0 : decode cX11_rowRefusal 0 = .ok (.iload_n 1, 1) := by decide +kernel
theorem dX11_rowRefusal_1 : decode cX11_rowRefusal 1 = .ok (.invokestatic 267, 3) := by decide +kernel
theorem dX11_rowRefusal_4 : decode cX11_rowRefusal 4 = .ok (.ifCond .eq 8, 3) := by decide +kernel
theorem dX11_rowRefusal_7 : decode cX11_rowRefusal 7 = .ok (.iload_n 3, 1) := by decide +kernel
theorem dX11_rowRefusal_8 : decode cX11_rowRefusal 8 = .ok (.iconst 5, 1) := by decide +kernel
theorem dX11_rowRefusal_9 : decode cX11_rowRefusal 9 = .ok (.if_icmp .le 5, 3) := by decide +kernel
theorem dX11_rowRefusal_12 : decode cX11_rowRefusal 12 = .ok (.iconst (-1), 1) := by decide +kernel
theorem dX11_rowRefusal_13 : decode cX11_rowRefusal 13 = .ok (.ireturn, 1) := by decide +kernel
theorem dX11_rowRefusal_14 : decode cX11_rowRefusal 14 = .ok (.aload_n 0, 1) := by decide +kernel
theorem dX11_rowRefusal_15 : decode cX11_rowRefusal 15 = .ok (.getfield 72, 3) := by decide +kernel
theorem dX11_rowRefusal_18 : decode cX11_rowRefusal 18 = .ok (.iload_n 1, 1) := by decide +kernel
theorem dX11_rowRefusal_19 : decode cX11_rowRefusal 19 = .ok (.aaload, 1) := by decide +kernel
theorem dX11_rowRefusal_20 : decode cX11_rowRefusal 20 = .ok (.invokevirtual 281, 3) := by decide +kernel
theorem dX11_rowRefusal_23 : decode cX11_rowRefusal 23 = .ok (.ifCond .ne 6, 3) := by decide +kernel
theorem dX11_rowRefusal_26 : decode cX11_rowRefusal 26 = .ok (.bipush (-11), 2) := by decide +kernel
theorem dX11_rowRefusal_28 : decode cX11_rowRefusal 28 = .ok (.ireturn, 1) := by decide +kernel
theorem dX11_numberRefusal_0 : decode cX11_numberRefusal 0 = .ok (.iload_n 1, 1) := by decide +kernel
theorem dX11_numberRefusal_1 : decode cX11_numberRefusal 1 = .ok (.invokestatic 267, 3) := by decide +kernel
theorem dX11_numberRefusal_4 : decode cX11_numberRefusal 4 = .ok (.ifCond .eq 10, 3) := by decide +kernel
theorem dX11_numberRefusal_7 : decode cX11_numberRefusal 7 = .ok (.iload_n 2, 1) := by decide +kernel
theorem dX11_numberRefusal_8 : decode cX11_numberRefusal 8 = .ok (.invokestatic 312, 3) := by decide +kernel
theorem dX11_numberRefusal_11 : decode cX11_numberRefusal 11 = .ok (.ifCond .ne 5, 3) := by decide +kernel
theorem dX11_numberRefusal_14 : decode cX11_numberRefusal 14 = .ok (.iconst (-1), 1) := by decide +kernel
theorem dX11_numberRefusal_15 : decode cX11_numberRefusal 15 = .ok (.ireturn, 1) := by decide +kernel
theorem dX11_numberRefusal_16 : decode cX11_numberRefusal 16 = .ok (.aload_n 0, 1) := by decide +kernel
theorem dX11_numberRefusal_17 : decode cX11_numberRefusal 17 = .ok (.getfield 72, 3) := by decide +kernel
theorem dX11_numberRefusal_20 : decode cX11_numberRefusal 20 = .ok (.iload_n 1, 1) := by decide +kernel
theorem dX11_numberRefusal_21 : decode cX11_numberRefusal 21 = .ok (.aaload, 1) := by decide +kernel
theorem dX11_numberRefusal_22 : decode cX11_numberRefusal 22 = .ok (.invokevirtual 281, 3) := by decide +kernel
theorem dX11_numberRefusal_25 : decode cX11_numberRefusal 25 = .ok (.ifCond .ne 6, 3) := by decide +kernel
theorem dX11_numberRefusal_28 : decode cX11_numberRefusal 28 = .ok (.bipush (-11), 2) := by decide +kernel
theorem dX11_numberRefusal_30 : decode cX11_numberRefusal 30 = .ok (.ireturn, 1) := by decide +kernel
theorem dX12_init_0 : decode cX12_init 0 = .ok (.aload_n 0, 1) := by decide +kernel
theorem dX12_init_1 : decode cX12_init 1 = .ok (.invokespecial 1, 3) := by decide +kernel
theorem dX12_init_4 : decode cX12_init 4 = .ok (.aload_n 0, 1) := by decide +kernel
theorem dX12_init_5 : decode cX12_init 5 = .ok (.bipush 40, 2) := by decide +kernel
theorem dX12_init_7 : decode cX12_init 7 = .ok (.newarray .int, 2) := by decide +kernel
theorem dX12_init_9 : decode cX12_init 9 = .ok (.putfield 7, 3) := by decide +kernel
theorem dX12_init_12 : decode cX12_init 12 = .ok (.aload_n 0, 1) := by decide +kernel
theorem dX12_init_13 : decode cX12_init 13 = .ok (.bipush 40, 2) := by decide +kernel
theorem dX12_init_15 : decode cX12_init 15 = .ok (.newarray .int, 2) := by decide +kernel
theorem dX12_init_17 : decode cX12_init 17 = .ok (.putfield 13, 3) := by decide +kernel
theorem dX12_init_20 : decode cX12_init 20 = .ok (.aload_n 0, 1) := by decide +kernel
theorem dX12_init_21 : decode cX12_init 21 = .ok (.bipush 40, 2) := by decide +kernel
theorem dX12_init_23 : decode cX12_init 23 = .ok (.newarray .int, 2) := by decide +kernel
theorem dX12_init_25 : decode cX12_init 25 = .ok (.putfield 16, 3) := by decide +kernel
theorem dX12_init_28 : decode cX12_init 28 = .ok (.aload_n 0, 1) := by decide +kernel
theorem dX12_init_29 : decode cX12_init 29 = .ok (.bipush 40, 2) := by decide +kernel
theorem dX12_init_31 : decode cX12_init 31 = .ok (.newarray .int, 2) := by decide +kernel
theorem dX12_init_33 : decode cX12_init 33 = .ok (.putfield 19, 3) := by decide +kernel
theorem dX12_init_36 : decode cX12_init 36 = .ok (.aload_n 0, 1) := by decide +kernel
theorem dX12_init_37 : decode cX12_init 37 = .ok (.bipush 40, 2) := by decide +kernel
theorem dX12_init_39 : decode cX12_init 39 = .ok (.newarray .int, 2) := by decide +kernel
theorem dX12_init_41 : decode cX12_init 41 = .ok (.putfield 22, 3) := by decide +kernel
theorem dX12_init_44 : decode cX12_init 44 = .ok (.aload_n 0, 1) := by decide +kernel
theorem dX12_init_45 : decode cX12_init 45 = .ok (.bipush 40, 2) := by decide +kernel
theorem dX12_init_47 : decode cX12_init 47 = .ok (.newarray .boolean, 2) := by decide +kernel
theorem dX12_init_49 : decode cX12_init 49 = .ok (.putfield 25, 3) := by decide +kernel
theorem dX12_init_52 : decode cX12_init 52 = .ok (.aload_n 0, 1) := by decide +kernel
theorem dX12_init_53 : decode cX12_init 53 = .ok (.bipush 30, 2) := by decide +kernel
theorem dX12_init_55 : decode cX12_init 55 = .ok (.newarray .int, 2) := by decide +kernel
theorem dX12_init_57 : decode cX12_init 57 = .ok (.putfield 29, 3) := by decide +kernel
theorem dX12_init_60 : decode cX12_init 60 = .ok (.aload_n 0, 1) := by decide +kernel
theorem dX12_init_61 : decode cX12_init 61 = .ok (.bipush 30, 2) := by decide +kernel
theorem dX12_init_63 : decode cX12_init 63 = .ok (.newarray .int, 2) := by decide +kernel
theorem dX12_init_65 : decode cX12_init 65 = .ok (.putfield 32, 3) := by decide +kernel
theorem dX12_init_68 : decode cX12_init 68 = .ok (.aload_n 0, 1) := by decide +kernel
theorem dX12_init_69 : decode cX12_init 69 = .ok (.sipush 6000, 3) := by decide +kernel
theorem dX12_init_72 : decode cX12_init 72 = .ok (.newarray .int, 2) := by decide +kernel
theorem dX12_init_74 : decode cX12_init 74 = .ok (.putfield 35, 3) := by decide +kernel
theorem dX12_init_77 : decode cX12_init 77 = .ok (.aload_n 0, 1) := by decide +kernel
theorem dX12_init_78 : decode cX12_init 78 = .ok (.iconst 4, 1) := by decide +kernel
theorem dX12_init_79 : decode cX12_init 79 = .ok (.newarray .boolean, 2) := by decide +kernel
theorem dX12_init_81 : decode cX12_init 81 = .ok (.putfield 38, 3) := by decide +kernel
theorem dX12_init_84 : decode cX12_init 84 = .ok (.aload_n 0, 1) := by decide +kernel
theorem dX12_init_85 : decode cX12_init 85 = .ok (.iconst 4, 1) := by decide +kernel
theorem dX12_init_86 : decode cX12_init 86 = .ok (.newarray .int, 2) := by decide +kernel
theorem dX12_init_88 : decode cX12_init 88 = .ok (.putfield 41, 3) := by decide +kernel
theorem dX12_init_91 : decode cX12_init 91 = .ok (.aload_n 0, 1) := by decide +kernel
theorem dX12_init_92 : decode cX12_init 92 = .ok (.iconst 4, 1) := by decide +kernel
theorem dX12_init_93 : decode cX12_init 93 = .ok (.newarray .int, 2) := by decide +kernel
theorem dX12_init_95 : decode cX12_init 95 = .ok (.putfield 44, 3) := by decide +kernel
theorem dX12_init_98 : decode cX12_init 98 = .ok (.aload_n 0, 1) := by decide +kernel
theorem dX12_init_99 : decode cX12_init 99 = .ok (.bipush 24, 2) := by decide +kernel
theorem dX12_init_101 : decode cX12_init 101 = .ok (.newarray .int, 2) := by decide +kernel
theorem dX12_init_103 : decode cX12_init 103 = .ok (.putfield 47, 3) := by decide +kernel
theorem dX12_init_106 : decode cX12_init 106 = .ok (.aload_n 0, 1) := by decide +kernel
theorem dX12_init_107 : decode cX12_init 107 = .ok (.bipush 120, 2) := by decide +kernel
theorem dX12_init_109 : decode cX12_init 109 = .ok (.newarray .long, 2) := by decide +kernel
theorem dX12_init_111 : decode cX12_init 111 = .ok (.putfield 50, 3) := by decide +kernel
theorem dX12_init_114 : decode cX12_init 114 = .ok (.aload_n 0, 1) := by decide +kernel
theorem dX12_init_115 : decode cX12_init 115 = .ok (.iconst 5, 1) := by decide +kernel
theorem dX12_init_116 : decode cX12_init 116 = .ok (.newarray .long, 2) := by decide +kernel
theorem dX12_init_118 : decode cX12_init 118 = .ok (.putfield 54, 3) := by decide +kernel
theorem dX12_init_121 : decode cX12_init 121 = .ok (.aload_n 0, 1) := by decide +kernel
theorem dX12_init_122 : decode cX12_init 122 = .ok (.bipush (-9), 2) := by decide +kernel
theorem dX12_init_124 : decode cX12_init 124 = .ok (.putfield 57, 3) := by decide +kernel
theorem dX12_init_127 : decode cX12_init 127 = .ok (.aload_n 0, 1) := by decide +kernel
theorem dX12_init_128 : decode cX12_init 128 = .ok (.bipush 40, 2) := by decide +kernel
theorem dX12_init_130 : decode cX12_init 130 = .ok (.newarray .int, 2) := by decide +kernel
theorem dX12_init_132 : decode cX12_init 132 = .ok (.putfield 61, 3) := by decide +kernel
theorem dX12_init_135 : decode cX12_init 135 = .ok (.aload_n 0, 1) := by decide +kernel
theorem dX12_init_136 : decode cX12_init 136 = .ok (.bipush 12, 2) := by decide +kernel
theorem dX12_init_138 : decode cX12_init 138 = .ok (.newarray .int, 2) := by decide +kernel
theorem dX12_init_140 : decode cX12_init 140 = .ok (.putfield 64, 3) := by decide +kernel
theorem dX12_init_143 : decode cX12_init 143 = .ok (.aload_n 0, 1) := by decide +kernel
theorem dX12_init_144 : decode cX12_init 144 = .ok (.bipush 12, 2) := by decide +kernel
theorem dX12_init_146 : decode cX12_init 146 = .ok (.newarray .int, 2) := by decide +kernel
theorem dX12_init_148 : decode cX12_init 148 = .ok (.putfield 67, 3) := by decide +kernel
theorem dX12_init_151 : decode cX12_init 151 = .ok (.aload_n 0, 1) := by decide +kernel
theorem dX12_init_152 : decode cX12_init 152 = .ok (.bipush 12, 2) := by decide +kernel
theorem dX12_init_154 : decode cX12_init 154 = .ok (.newarray .long, 2) := by decide +kernel
theorem dX12_init_156 : decode cX12_init 156 = .ok (.putfield 70, 3) := by decide +kernel
theorem dX12_init_159 : decode cX12_init 159 = .ok (.aload_n 0, 1) := by decide +kernel
theorem dX12_init_160 : decode cX12_init 160 = .ok (.bipush 12, 2) := by decide +kernel
theorem dX12_init_162 : decode cX12_init 162 = .ok (.newarray .int, 2) := by decide +kernel
theorem dX12_init_164 : decode cX12_init 164 = .ok (.putfield 73, 3) := by decide +kernel
theorem dX12_init_167 : decode cX12_init 167 = .ok (.aload_n 0, 1) := by decide +kernel
theorem dX12_init_168 : decode cX12_init 168 = .ok (.bipush 12, 2) := by decide +kernel
theorem dX12_init_170 : decode cX12_init 170 = .ok (.newarray .int, 2) := by decide +kernel
theorem dX12_init_172 : decode cX12_init 172 = .ok (.putfield 76, 3) := by decide +kernel
theorem dX12_init_175 : decode cX12_init 175 = .ok (.aload_n 0, 1) := by decide +kernel
theorem dX12_init_176 : decode cX12_init 176 = .ok (.bipush 12, 2) := by decide +kernel
theorem dX12_init_178 : decode cX12_init 178 = .ok (.newarray .int, 2) := by decide +kernel
theorem dX12_init_180 : decode cX12_init 180 = .ok (.putfield 79, 3) := by decide +kernel
theorem dX12_init_183 : decode cX12_init 183 = .ok (.aload_n 0, 1) := by decide +kernel
theorem dX12_init_184 : decode cX12_init 184 = .ok (.bipush 12, 2) := by decide +kernel
theorem dX12_init_186 : decode cX12_init 186 = .ok (.newarray .int, 2) := by decide +kernel
theorem dX12_init_188 : decode cX12_init 188 = .ok (.putfield 82, 3) := by decide +kernel
theorem dX12_init_191 : decode cX12_init 191 = .ok (.return_, 1) := by decide +kernel
theorem dX12_in_0 : decode cX12_in 0 = .ok (.lload_n 0, 1) := by decide +kernel
theorem dX12_in_1 : decode cX12_in 1 = .ok (.lload_n 2, 1) := by decide +kernel
theorem dX12_in_2 : decode cX12_in 2 = .ok (.lcmp, 1) := by decide +kernel
theorem dX12_in_3 : decode cX12_in 3 = .ok (.ifCond .lt 14, 3) := by decide +kernel
theorem dX12_in_6 : decode cX12_in 6 = .ok (.lload_n 0, 1) := by decide +kernel
theorem dX12_in_7 : decode cX12_in 7 = .ok (.lload 4, 2) := by decide +kernel
theorem dX12_in_9 : decode cX12_in 9 = .ok (.lcmp, 1) := by decide +kernel
theorem dX12_in_10 : decode cX12_in 10 = .ok (.ifCond .gt 7, 3) := by decide +kernel
theorem dX12_in_13 : decode cX12_in 13 = .ok (.iconst 1, 1) := by decide +kernel
theorem dX12_in_14 : decode cX12_in 14 = .ok (.goto 4, 3) := by decide +kernel
theorem dX12_in_17 : decode cX12_in 17 = .ok (.iconst 0, 1) := by decide +kernel
theorem dX12_in_18 : decode cX12_in 18 = .ok (.ireturn, 1) := by decide +kernel
theorem dX12_isPlace_0 : decode cX12_isPlace 0 = .ok (.iload_n 1, 1) := by decide +kernel
theorem dX12_isPlace_1 : decode cX12_isPlace 1 = .ok (.i2l, 1) := by decide +kernel
theorem dX12_isPlace_2 : decode cX12_isPlace 2 = .ok (.lconst 0, 1) := by decide +kernel
theorem dX12_isPlace_3 : decode cX12_isPlace 3 = .ok (.aload_n 0, 1) := by decide +kernel
theorem dX12_isPlace_4 : decode cX12_isPlace 4 = .ok (.getfield 88, 3) := by decide +kernel
theorem dX12_isPlace_7 : decode cX12_isPlace 7 = .ok (.iconst 1, 1) := by decide +kernel
theorem dX12_isPlace_8 : decode cX12_isPlace 8 = .ok (.isub, 1) := by decide +kernel
theorem dX12_isPlace_9 : decode cX12_isPlace 9 = .ok (.i2l, 1) := by decide +kernel
theorem dX12_isPlace_10 : decode cX12_isPlace 10 = .ok (.invokestatic 91, 3) := by decide +kernel
theorem dX12_isPlace_13 : decode cX12_isPlace 13 = .ok (.ireturn, 1) := by decide +kernel
theorem dX12_isLine_0 : decode cX12_isLine 0 = .ok (.iload_n 1, 1) := by decide +kernel
theorem dX12_isLine_1 : decode cX12_isLine 1 = .ok (.i2l, 1) := by decide +kernel
theorem dX12_isLine_2 : decode cX12_isLine 2 = .ok (.lconst 0, 1) := by decide +kernel
theorem dX12_isLine_3 : decode cX12_isLine 3 = .ok (.aload_n 0, 1) := by decide +kernel
theorem dX12_isLine_4 : decode cX12_isLine 4 = .ok (.getfield 95, 3) := by decide +kernel
theorem dX12_isLine_7 : decode cX12_isLine 7 = .ok (.iconst 1, 1) := by decide +kernel
theorem dX12_isLine_8 : decode cX12_isLine 8 = .ok (.isub, 1) := by decide +kernel
theorem dX12_isLine_9 : decode cX12_isLine 9 = .ok (.i2l, 1) := by decide +kernel
theorem dX12_isLine_10 : decode cX12_isLine 10 = .ok (.invokestatic 91, 3) := by decide +kernel
theorem dX12_isLine_13 : decode cX12_isLine 13 = .ok (.ireturn, 1) := by decide +kernel
theorem dX12_arePlaces_0 : decode cX12_arePlaces 0 = .ok (.aload_n 0, 1) := by decide +kernel
theorem dX12_arePlaces_1 : decode cX12_arePlaces 1 = .ok (.iload_n 1, 1) := by decide +kernel
theorem dX12_arePlaces_2 : decode cX12_arePlaces 2 = .ok (.invokevirtual 98, 3) := by decide +kernel
theorem dX12_arePlaces_5 : decode cX12_arePlaces 5 = .ok (.ifCond .eq 20, 3) := by decide +kernel
theorem dX12_arePlaces_25 : decode cX12_arePlaces 25 = .ok (.iconst 0, 1) := by decide +kernel
theorem dX12_arePlaces_26 : decode cX12_arePlaces 26 = .ok (.ireturn, 1) := by decide +kernel
theorem dX12_keeps_0 : decode cX12_keeps 0 = .ok (.aload_n 0, 1) := by decide +kernel
theorem dX12_keeps_1 : decode cX12_keeps 1 = .ok (.getfield 102, 3) := by decide +kernel
theorem dX12_keeps_4 : decode cX12_keeps 4 = .ok (.bipush 30, 2) := by decide +kernel
theorem dX12_keeps_6 : decode cX12_keeps 6 = .ok (.if_icmp .ne 86, 3) := by decide +kernel
theorem dX12_keeps_92 : decode cX12_keeps 92 = .ok (.aload_n 0, 1) := by decide +kernel
theorem dX12_keeps_93 : decode cX12_keeps 93 = .ok (.getfield 29, 3) := by decide +kernel
theorem dX12_keeps_96 : decode cX12_keeps 96 = .ok (.aload_n 0, 1) := by decide +kernel
theorem dX12_keeps_97 : decode cX12_keeps 97 = .ok (.getfield 102, 3) := by decide +kernel
theorem dX12_keeps_100 : decode cX12_keeps 100 = .ok (.aload_n 0, 1) := by decide +kernel
theorem dX12_keeps_101 : decode cX12_keeps 101 = .ok (.getfield 88, 3) := by decide +kernel
theorem dX12_keeps_104 : decode cX12_keeps 104 = .ok (.iastore, 1) := by decide +kernel
theorem dX12_keeps_105 : decode cX12_keeps 105 = .ok (.aload_n 0, 1) := by decide +kernel
theorem dX12_keeps_106 : decode cX12_keeps 106 = .ok (.getfield 32, 3) := by decide +kernel
theorem dX12_keeps_109 : decode cX12_keeps 109 = .ok (.aload_n 0, 1) := by decide +kernel
theorem dX12_keeps_110 : decode cX12_keeps 110 = .ok (.getfield 102, 3) := by decide +kernel
theorem dX12_keeps_113 : decode cX12_keeps 113 = .ok (.aload_n 0, 1) := by decide +kernel
theorem dX12_keeps_114 : decode cX12_keeps 114 = .ok (.getfield 95, 3) := by decide +kernel
theorem dX12_keeps_117 : decode cX12_keeps 117 = .ok (.iastore, 1) := by decide +kernel
theorem dX12_keeps_118 : decode cX12_keeps 118 = .ok (.iconst 0, 1) := by decide +kernel
theorem dX12_keeps_119 : decode cX12_keeps 119 = .ok (.istore_n 1, 1) := by decide +kernel
theorem dX12_keeps_120 : decode cX12_keeps 120 = .ok (.iload_n 1, 1) := by decide +kernel
theorem dX12_keeps_121 : decode cX12_keeps 121 = .ok (.bipush 40, 2) := by decide +kernel
theorem dX12_keeps_123 : decode cX12_keeps 123 = .ok (.if_icmp .ge 107, 3) := by decide +kernel
theorem dX12_keeps_126 : decode cX12_keeps 126 = .ok (.sipush 200, 3) := by decide +kernel
theorem dX12_keeps_129 : decode cX12_keeps 129 = .ok (.aload_n 0, 1) := by decide +kernel
theorem dX12_keeps_130 : decode cX12_keeps 130 = .ok (.getfield 102, 3) := by decide +kernel
theorem dX12_keeps_133 : decode cX12_keeps 133 = .ok (.imul, 1) := by decide +kernel
theorem dX12_keeps_134 : decode cX12_keeps 134 = .ok (.iconst 5, 1) := by decide +kernel
theorem dX12_keeps_135 : decode cX12_keeps 135 = .ok (.iload_n 1, 1) := by decide +kernel
theorem dX12_keeps_136 : decode cX12_keeps 136 = .ok (.imul, 1) := by decide +kernel
theorem dX12_keeps_137 : decode cX12_keeps 137 = .ok (.iadd, 1) := by decide +kernel
theorem dX12_keeps_138 : decode cX12_keeps 138 = .ok (.istore_n 2, 1) := by decide +kernel
theorem dX12_keeps_139 : decode cX12_keeps 139 = .ok (.aload_n 0, 1) := by decide +kernel
theorem dX12_keeps_140 : decode cX12_keeps 140 = .ok (.getfield 35, 3) := by decide +kernel
theorem dX12_keeps_143 : decode cX12_keeps 143 = .ok (.iload_n 2, 1) := by decide +kernel
theorem dX12_keeps_144 : decode cX12_keeps 144 = .ok (.aload_n 0, 1) := by decide +kernel
theorem dX12_keeps_145 : decode cX12_keeps 145 = .ok (.getfield 7, 3) := by decide +kernel
theorem dX12_keeps_148 : decode cX12_keeps 148 = .ok (.iload_n 1, 1) := by decide +kernel
theorem dX12_keeps_149 : decode cX12_keeps 149 = .ok (.iaload, 1) := by decide +kernel
theorem dX12_keeps_150 : decode cX12_keeps 150 = .ok (.iastore, 1) := by decide +kernel
theorem dX12_keeps_151 : decode cX12_keeps 151 = .ok (.aload_n 0, 1) := by decide +kernel
theorem dX12_keeps_152 : decode cX12_keeps 152 = .ok (.getfield 35, 3) := by decide +kernel
theorem dX12_keeps_155 : decode cX12_keeps 155 = .ok (.iload_n 2, 1) := by decide +kernel
theorem dX12_keeps_156 : decode cX12_keeps 156 = .ok (.iconst 1, 1) := by decide +kernel
theorem dX12_keeps_157 : decode cX12_keeps 157 = .ok (.iadd, 1) := by decide +kernel
theorem dX12_keeps_158 : decode cX12_keeps 158 = .ok (.aload_n 0, 1) := by decide +kernel
theorem dX12_keeps_159 : decode cX12_keeps 159 = .ok (.getfield 13, 3) := by decide +kernel
theorem dX12_keeps_162 : decode cX12_keeps 162 = .ok (.iload_n 1, 1) := by decide +kernel
theorem dX12_keeps_163 : decode cX12_keeps 163 = .ok (.iaload, 1) := by decide +kernel
theorem dX12_keeps_164 : decode cX12_keeps 164 = .ok (.iastore, 1) := by decide +kernel
theorem dX12_keeps_165 : decode cX12_keeps 165 = .ok (.aload_n 0, 1) := by decide +kernel
theorem dX12_keeps_166 : decode cX12_keeps 166 = .ok (.getfield 35, 3) := by decide +kernel
theorem dX12_keeps_169 : decode cX12_keeps 169 = .ok (.iload_n 2, 1) := by decide +kernel
theorem dX12_keeps_170 : decode cX12_keeps 170 = .ok (.iconst 2, 1) := by decide +kernel
theorem dX12_keeps_171 : decode cX12_keeps 171 = .ok (.iadd, 1) := by decide +kernel
theorem dX12_keeps_172 : decode cX12_keeps 172 = .ok (.aload_n 0, 1) := by decide +kernel
theorem dX12_keeps_173 : decode cX12_keeps 173 = .ok (.getfield 16, 3) := by decide +kernel
theorem dX12_keeps_176 : decode cX12_keeps 176 = .ok (.iload_n 1, 1) := by decide +kernel
theorem dX12_keeps_177 : decode cX12_keeps 177 = .ok (.iaload, 1) := by decide +kernel
theorem dX12_keeps_178 : decode cX12_keeps 178 = .ok (.iastore, 1) := by decide +kernel
theorem dX12_keeps_179 : decode cX12_keeps 179 = .ok (.aload_n 0, 1) := by decide +kernel
theorem dX12_keeps_180 : decode cX12_keeps 180 = .ok (.getfield 35, 3) := by decide +kernel
theorem dX12_keeps_183 : decode cX12_keeps 183 = .ok (.iload_n 2, 1) := by decide +kernel
theorem dX12_keeps_184 : decode cX12_keeps 184 = .ok (.iconst 3, 1) := by decide +kernel
theorem dX12_keeps_185 : decode cX12_keeps 185 = .ok (.iadd, 1) := by decide +kernel
theorem dX12_keeps_186 : decode cX12_keeps 186 = .ok (.aload_n 0, 1) := by decide +kernel
theorem dX12_keeps_187 : decode cX12_keeps 187 = .ok (.getfield 19, 3) := by decide +kernel
theorem dX12_keeps_190 : decode cX12_keeps 190 = .ok (.iload_n 1, 1) := by decide +kernel
theorem dX12_keeps_191 : decode cX12_keeps 191 = .ok (.iaload, 1) := by decide +kernel
theorem dX12_keeps_192 : decode cX12_keeps 192 = .ok (.iastore, 1) := by decide +kernel
theorem dX12_keeps_193 : decode cX12_keeps 193 = .ok (.aload_n 0, 1) := by decide +kernel
theorem dX12_keeps_194 : decode cX12_keeps 194 = .ok (.getfield 35, 3) := by decide +kernel
theorem dX12_keeps_197 : decode cX12_keeps 197 = .ok (.iload_n 2, 1) := by decide +kernel
theorem dX12_keeps_198 : decode cX12_keeps 198 = .ok (.iconst 4, 1) := by decide +kernel
theorem dX12_keeps_199 : decode cX12_keeps 199 = .ok (.iadd, 1) := by decide +kernel
theorem dX12_keeps_200 : decode cX12_keeps 200 = .ok (.aload_n 0, 1) := by decide +kernel
theorem dX12_keeps_201 : decode cX12_keeps 201 = .ok (.getfield 22, 3) := by decide +kernel
theorem dX12_keeps_204 : decode cX12_keeps 204 = .ok (.iload_n 1, 1) := by decide +kernel
theorem dX12_keeps_205 : decode cX12_keeps 205 = .ok (.iaload, 1) := by decide +kernel
theorem dX12_keeps_206 : decode cX12_keeps 206 = .ok (.aload_n 0, 1) := by decide +kernel
theorem dX12_keeps_207 : decode cX12_keeps 207 = .ok (.getfield 25, 3) := by decide +kernel
theorem dX12_keeps_210 : decode cX12_keeps 210 = .ok (.iload_n 1, 1) := by decide +kernel
theorem dX12_keeps_211 : decode cX12_keeps 211 = .ok (.baload, 1) := by decide +kernel
theorem dX12_keeps_212 : decode cX12_keeps 212 = .ok (.ifCond .eq 9, 3) := by decide +kernel
theorem dX12_keeps_221 : decode cX12_keeps 221 = .ok (.iconst 0, 1) := by decide +kernel
theorem dX12_keeps_222 : decode cX12_keeps 222 = .ok (.iadd, 1) := by decide +kernel
theorem dX12_keeps_223 : decode cX12_keeps 223 = .ok (.iastore, 1) := by decide +kernel
theorem dX12_keeps_224 : decode cX12_keeps 224 = .ok (.iinc 1 1, 3) := by decide +kernel
theorem dX12_keeps_227 : decode cX12_keeps 227 = .ok (.goto (-107), 3) := by decide +kernel
theorem dX12_keeps_230 : decode cX12_keeps 230 = .ok (.aload_n 0, 1) := by decide +kernel
theorem dX12_keeps_231 : decode cX12_keeps 231 = .ok (.dup, 1) := by decide +kernel
theorem dX12_keeps_232 : decode cX12_keeps 232 = .ok (.getfield 102, 3) := by decide +kernel
theorem dX12_keeps_235 : decode cX12_keeps 235 = .ok (.iconst 1, 1) := by decide +kernel
theorem dX12_keeps_236 : decode cX12_keeps 236 = .ok (.iadd, 1) := by decide +kernel
theorem dX12_keeps_237 : decode cX12_keeps 237 = .ok (.putfield 102, 3) := by decide +kernel
theorem dX12_keeps_240 : decode cX12_keeps 240 = .ok (.return_, 1) := by decide +kernel
theorem dX12_place_0 : decode cX12_place 0 = .ok (.aload_n 0, 1) := by decide +kernel
theorem dX12_place_1 : decode cX12_place 1 = .ok (.iconst 0, 1) := by decide +kernel
theorem dX12_place_2 : decode cX12_place 2 = .ok (.putfield 85, 3) := by decide +kernel
theorem dX12_place_5 : decode cX12_place 5 = .ok (.aload_n 0, 1) := by decide +kernel
theorem dX12_place_6 : decode cX12_place 6 = .ok (.getfield 88, 3) := by decide +kernel
theorem dX12_place_9 : decode cX12_place 9 = .ok (.bipush 12, 2) := by decide +kernel
theorem dX12_place_11 : decode cX12_place 11 = .ok (.if_icmp .ne 6, 3) := by decide +kernel
theorem dX12_place_17 : decode cX12_place 17 = .ok (.aload_n 0, 1) := by decide +kernel
theorem dX12_place_18 : decode cX12_place 18 = .ok (.invokevirtual 105, 3) := by decide +kernel
theorem dX12_place_21 : decode cX12_place 21 = .ok (.aload_n 0, 1) := by decide +kernel
theorem dX12_place_22 : decode cX12_place 22 = .ok (.dup, 1) := by decide +kernel
theorem dX12_place_23 : decode cX12_place 23 = .ok (.getfield 88, 3) := by decide +kernel
theorem dX12_place_26 : decode cX12_place 26 = .ok (.iconst 1, 1) := by decide +kernel
theorem dX12_place_27 : decode cX12_place 27 = .ok (.iadd, 1) := by decide +kernel
theorem dX12_place_28 : decode cX12_place 28 = .ok (.putfield 88, 3) := by decide +kernel
theorem dX12_place_31 : decode cX12_place 31 = .ok (.aload_n 0, 1) := by decide +kernel
theorem dX12_place_32 : decode cX12_place 32 = .ok (.getfield 88, 3) := by decide +kernel
theorem dX12_place_35 : decode cX12_place 35 = .ok (.iconst 1, 1) := by decide +kernel
theorem dX12_place_36 : decode cX12_place 36 = .ok (.isub, 1) := by decide +kernel
theorem dX12_place_37 : decode cX12_place 37 = .ok (.ireturn, 1) := by decide +kernel
theorem dX12_refused_0 : decode cX12_refused 0 = .ok (.lload_n 1, 1) := by decide +kernel
theorem dX12_refused_1 : decode cX12_refused 1 = .ok (.lconst 0, 1) := by decide +kernel
theorem dX12_refused_2 : decode cX12_refused 2 = .ok (.ldc2_w 108, 3) := by decide +kernel
theorem dX12_refused_5 : decode cX12_refused 5 = .ok (.invokestatic 91, 3) := by decide +kernel
theorem dX12_refused_8 : decode cX12_refused 8 = .ok (.ifCond .eq 69, 3) := by decide +kernel
theorem dX12_refused_11 : decode cX12_refused 11 = .ok (.lload_n 3, 1) := by decide +kernel
theorem dX12_refused_12 : decode cX12_refused 12 = .ok (.lconst 0, 1) := by decide +kernel
theorem dX12_refused_13 : decode cX12_refused 13 = .ok (.aload_n 0, 1) := by decide +kernel
theorem dX12_refused_14 : decode cX12_refused 14 = .ok (.getfield 88, 3) := by decide +kernel
theorem dX12_refused_17 : decode cX12_refused 17 = .ok (.iconst 1, 1) := by decide +kernel
theorem dX12_refused_18 : decode cX12_refused 18 = .ok (.isub, 1) := by decide +kernel
theorem dX12_refused_19 : decode cX12_refused 19 = .ok (.i2l, 1) := by decide +kernel
theorem dX12_refused_20 : decode cX12_refused 20 = .ok (.invokestatic 91, 3) := by decide +kernel
theorem dX12_refused_23 : decode cX12_refused 23 = .ok (.ifCond .eq 54, 3) := by decide +kernel
theorem dX12_refused_77 : decode cX12_refused 77 = .ok (.iconst 0, 1) := by decide +kernel
theorem dX12_refused_78 : decode cX12_refused 78 = .ok (.istore 11, 2) := by decide +kernel
theorem dX12_refused_80 : decode cX12_refused 80 = .ok (.iload 11, 2) := by decide +kernel
theorem dX12_refused_82 : decode cX12_refused 82 = .ok (.ifCond .ne 7, 3) := by decide +kernel
theorem dX12_refused_85 : decode cX12_refused 85 = .ok (.iconst (-1), 1) := by decide +kernel
theorem dX12_refused_86 : decode cX12_refused 86 = .ok (.goto 18, 3) := by decide +kernel
theorem dX12_refused_104 : decode cX12_refused 104 = .ok (.ireturn, 1) := by decide +kernel
theorem dX12_line_0 : decode cX12_line 0 = .ok (.aload_n 0, 1) := by decide +kernel
theorem dX12_line_1 : decode cX12_line 1 = .ok (.iconst 0, 1) := by decide +kernel
theorem dX12_line_2 : decode cX12_line 2 = .ok (.putfield 85, 3) := by decide +kernel
theorem dX12_line_5 : decode cX12_line 5 = .ok (.aload_n 0, 1) := by decide +kernel
theorem dX12_line_6 : decode cX12_line 6 = .ok (.iload_n 1, 1) := by decide +kernel
theorem dX12_line_7 : decode cX12_line 7 = .ok (.i2l, 1) := by decide +kernel
theorem dX12_line_8 : decode cX12_line 8 = .ok (.iload_n 2, 1) := by decide +kernel
theorem dX12_line_9 : decode cX12_line 9 = .ok (.i2l, 1) := by decide +kernel
theorem dX12_line_10 : decode cX12_line 10 = .ok (.iload_n 3, 1) := by decide +kernel
theorem dX12_line_11 : decode cX12_line 11 = .ok (.i2l, 1) := by decide +kernel
theorem dX12_line_12 : decode cX12_line 12 = .ok (.iload 4, 2) := by decide +kernel
theorem dX12_line_14 : decode cX12_line 14 = .ok (.i2l, 1) := by decide +kernel
theorem dX12_line_15 : decode cX12_line 15 = .ok (.iload 5, 2) := by decide +kernel
theorem dX12_line_17 : decode cX12_line 17 = .ok (.i2l, 1) := by decide +kernel
theorem dX12_line_18 : decode cX12_line 18 = .ok (.invokevirtual 120, 3) := by decide +kernel
theorem dX12_line_21 : decode cX12_line 21 = .ok (.istore 6, 2) := by decide +kernel
theorem dX12_line_23 : decode cX12_line 23 = .ok (.iload 6, 2) := by decide +kernel
theorem dX12_line_25 : decode cX12_line 25 = .ok (.ifCond .ge 6, 3) := by decide +kernel
theorem dX12_line_28 : decode cX12_line 28 = .ok (.iload 6, 2) := by decide +kernel
theorem dX12_line_30 : decode cX12_line 30 = .ok (.ireturn, 1) := by decide +kernel
theorem dX12_widen_0 : decode cX12_widen 0 = .ok (.aload_n 0, 1) := by decide +kernel
theorem dX12_widen_1 : decode cX12_widen 1 = .ok (.iconst 0, 1) := by decide +kernel
theorem dX12_widen_2 : decode cX12_widen 2 = .ok (.putfield 85, 3) := by decide +kernel
theorem dX12_widen_5 : decode cX12_widen 5 = .ok (.aload_n 0, 1) := by decide +kernel
theorem dX12_widen_6 : decode cX12_widen 6 = .ok (.iload_n 1, 1) := by decide +kernel
theorem dX12_widen_7 : decode cX12_widen 7 = .ok (.invokevirtual 132, 3) := by decide +kernel
theorem dX12_widen_10 : decode cX12_widen 10 = .ok (.ifCond .eq 15, 3) := by decide +kernel
theorem dX12_widen_25 : decode cX12_widen 25 = .ok (.iconst (-1), 1) := by decide +kernel
theorem dX12_widen_26 : decode cX12_widen 26 = .ok (.ireturn, 1) := by decide +kernel
theorem dX12_width_0 : decode cX12_width 0 = .ok (.aload_n 0, 1) := by decide +kernel
theorem dX12_width_1 : decode cX12_width 1 = .ok (.iconst 0, 1) := by decide +kernel
theorem dX12_width_2 : decode cX12_width 2 = .ok (.putfield 85, 3) := by decide +kernel
theorem dX12_width_5 : decode cX12_width 5 = .ok (.aload_n 0, 1) := by decide +kernel
theorem dX12_width_6 : decode cX12_width 6 = .ok (.iload_n 1, 1) := by decide +kernel
theorem dX12_width_7 : decode cX12_width 7 = .ok (.invokevirtual 132, 3) := by decide +kernel
theorem dX12_width_10 : decode cX12_width 10 = .ok (.ifCond .eq 15, 3) := by decide +kernel
theorem dX12_width_25 : decode cX12_width 25 = .ok (.iconst (-1), 1) := by decide +kernel
theorem dX12_width_26 : decode cX12_width 26 = .ok (.ireturn, 1) := by decide +kernel
theorem dX12_merge_0 : decode cX12_merge 0 = .ok (.aload_n 0, 1) := by decide +kernel
theorem dX12_merge_1 : decode cX12_merge 1 = .ok (.iconst 0, 1) := by decide +kernel
theorem dX12_merge_2 : decode cX12_merge 2 = .ok (.putfield 85, 3) := by decide +kernel
theorem dX12_merge_5 : decode cX12_merge 5 = .ok (.aload_n 0, 1) := by decide +kernel
theorem dX12_merge_6 : decode cX12_merge 6 = .ok (.iload_n 1, 1) := by decide +kernel
theorem dX12_merge_7 : decode cX12_merge 7 = .ok (.iload_n 2, 1) := by decide +kernel
theorem dX12_merge_8 : decode cX12_merge 8 = .ok (.invokevirtual 143, 3) := by decide +kernel
theorem dX12_merge_11 : decode cX12_merge 11 = .ok (.ifCond .ne 5, 3) := by decide +kernel
