theorem dB_36_0_0 : ((((decode cX0_init 0 = .ok (.aload_n 0, 1)) ∧ (decode cX0_init 1 = .ok (.invokespecial 3, 3))) ∧ ((decode cX0_init 4 = .ok (.aload_n 0, 1)) ∧ (decode cX0_init 5 = .ok (.bipush 12, 2)))) ∧ (((decode cX0_init 7 = .ok (.bipush 12, 2)) ∧ (decode cX0_init 9 = .ok (.multianewarray 9 2, 4))) ∧ ((decode cX0_init 13 = .ok (.putfield 11, 3)) ∧ (decode cX0_init 16 = .ok (.aload_n 0, 1))))) ∧ ((((decode cX0_init 17 = .ok (.bipush 12, 2)) ∧ (decode cX0_init 19 = .ok (.bipush 12, 2))) ∧ ((decode cX0_init 21 = .ok (.multianewarray 9 2, 4)) ∧ (decode cX0_init 25 = .ok (.putfield 16, 3)))) ∧ (((decode cX0_init 28 = .ok (.aload_n 0, 1)) ∧ (decode cX0_init 29 = .ok (.bipush 40, 2))) ∧ ((decode cX0_init 31 = .ok (.newarray .int, 2)) ∧ (decode cX0_init 33 = .ok (.putfield 19, 3))))) := by first | decide +kernel | ((repeat' apply And.intro) <;> decide +kernel)
theorem dX0_init_0 : decode cX0_init 0 = .ok (.aload_n 0, 1) := dB_36_0_0.1.1.1.1
theorem dX0_init_1 : decode cX0_init 1 = .ok (.invokespecial 3, 3) := dB_36_0_0.1.1.1.2
theorem dX0_init_4 : decode cX0_init 4 = .ok (.aload_n 0, 1) := dB_36_0_0.1.1.2.1
theorem dX0_init_5 : decode cX0_init 5 = .ok (.bipush 12, 2) := dB_36_0_0.1.1.2.2
theorem dX0_init_7 : decode cX0_init 7 = .ok (.bipush 12, 2) := dB_36_0_0.1.2.1.1
theorem dX0_init_9 : decode cX0_init 9 = .ok (.multianewarray 9 2, 4) := dB_36_0_0.1.2.1.2
theorem dX0_init_13 : decode cX0_init 13 = .ok (.putfield 11, 3) := dB_36_0_0.1.2.2.1
theorem dX0_init_16 : decode cX0_init 16 = .ok (.aload_n 0, 1) := dB_36_0_0.1.2.2.2
theorem dX0_init_17 : decode cX0_init 17 = .ok (.bipush 12, 2) := dB_36_0_0.2.1.1.1
theorem dX0_init_19 : decode cX0_init 19 = .ok (.bipush 12, 2) := dB_36_0_0.2.1.1.2
theorem dX0_init_21 : decode cX0_init 21 = .ok (.multianewarray 9 2, 4) := dB_36_0_0.2.1.2.1
theorem dX0_init_25 : decode cX0_init 25 = .ok (.putfield 16, 3) := dB_36_0_0.2.1.2.2
theorem dX0_init_28 : decode cX0_init 28 = .ok (.aload_n 0, 1) := dB_36_0_0.2.2.1.1
theorem dX0_init_29 : decode cX0_init 29 = .ok (.bipush 40, 2) := dB_36_0_0.2.2.1.2
theorem dX0_init_31 : decode cX0_init 31 = .ok (.newarray .int, 2) := dB_36_0_0.2.2.2.1
theorem dX0_init_33 : decode cX0_init 33 = .ok (.putfield 19, 3) := dB_36_0_0.2.2.2.2
theorem dB_36_0_1 : ((((decode cX0_init 36 = .ok (.aload_n 0, 1)) ∧ (decode cX0_init 37 = .ok (.bipush 40, 2))) ∧ ((decode cX0_init 39 = .ok (.newarray .int, 2)) ∧ (decode cX0_init 41 = .ok (.putfield 23, 3)))) ∧ (((decode cX0_init 44 = .ok (.aload_n 0, 1)) ∧ (decode cX0_init 45 = .ok (.bipush 40, 2))) ∧ ((decode cX0_init 47 = .ok (.newarray .int, 2)) ∧ (decode cX0_init 49 = .ok (.putfield 26, 3))))) ∧ ((((decode cX0_init 52 = .ok (.aload_n 0, 1)) ∧ (decode cX0_init 53 = .ok (.bipush 12, 2))) ∧ ((decode cX0_init 55 = .ok (.newarray .int, 2)) ∧ (decode cX0_init 57 = .ok (.putfield 29, 3)))) ∧ (((decode cX0_init 60 = .ok (.aload_n 0, 1)) ∧ (decode cX0_init 61 = .ok (.bipush 12, 2))) ∧ ((decode cX0_init 63 = .ok (.newarray .int, 2)) ∧ (decode cX0_init 65 = .ok (.putfield 32, 3))))) := by first | decide +kernel | ((repeat' apply And.intro) <;> decide +kernel)
theorem dX0_init_36 : decode cX0_init 36 = .ok (.aload_n 0, 1) := dB_36_0_1.1.1.1.1
theorem dX0_init_37 : decode cX0_init 37 = .ok (.bipush 40, 2) := dB_36_0_1.1.1.1.2
theorem dX0_init_39 : decode cX0_init 39 = .ok (.newarray .int, 2) := dB_36_0_1.1.1.2.1
theorem dX0_init_41 : decode cX0_init 41 = .ok (.putfield 23, 3) := dB_36_0_1.1.1.2.2
theorem dX0_init_44 : decode cX0_init 44 = .ok (.aload_n 0, 1) := dB_36_0_1.1.2.1.1
theorem dX0_init_45 : decode cX0_init 45 = .ok (.bipush 40, 2) := dB_36_0_1.1.2.1.2
theorem dX0_init_47 : decode cX0_init 47 = .ok (.newarray .int, 2) := dB_36_0_1.1.2.2.1
theorem dX0_init_49 : decode cX0_init 49 = .ok (.putfield 26, 3) := dB_36_0_1.1.2.2.2
theorem dX0_init_52 : decode cX0_init 52 = .ok (.aload_n 0, 1) := dB_36_0_1.2.1.1.1
theorem dX0_init_53 : decode cX0_init 53 = .ok (.bipush 12, 2) := dB_36_0_1.2.1.1.2
theorem dX0_init_55 : decode cX0_init 55 = .ok (.newarray .int, 2) := dB_36_0_1.2.1.2.1
theorem dX0_init_57 : decode cX0_init 57 = .ok (.putfield 29, 3) := dB_36_0_1.2.1.2.2
theorem dX0_init_60 : decode cX0_init 60 = .ok (.aload_n 0, 1) := dB_36_0_1.2.2.1.1
theorem dX0_init_61 : decode cX0_init 61 = .ok (.bipush 12, 2) := dB_36_0_1.2.2.1.2
theorem dX0_init_63 : decode cX0_init 63 = .ok (.newarray .int, 2) := dB_36_0_1.2.2.2.1
theorem dX0_init_65 : decode cX0_init 65 = .ok (.putfield 32, 3) := dB_36_0_1.2.2.2.2
theorem dB_36_0_2 : ((((decode cX0_init 68 = .ok (.aload_n 0, 1)) ∧ (decode cX0_init 69 = .ok (.aload_n 1, 1))) ∧ ((decode cX0_init 70 = .ok (.putfield 35, 3)) ∧ (decode cX0_init 73 = .ok (.aload_n 0, 1)))) ∧ (((decode cX0_init 74 = .ok (.aload_n 2, 1)) ∧ (decode cX0_init 75 = .ok (.putfield 39, 3))) ∧ ((decode cX0_init 78 = .ok (.return_, 1)) ∧ (decode cX0_load 0 = .ok (.iconst 0, 1))))) ∧ ((((decode cX0_load 1 = .ok (.istore_n 2, 1)) ∧ (decode cX0_load 2 = .ok (.iload_n 2, 1))) ∧ ((decode cX0_load 3 = .ok (.aload_n 0, 1)) ∧ (decode cX0_load 4 = .ok (.getfield 35, 3)))) ∧ (((decode cX0_load 7 = .ok (.getfield 43, 3)) ∧ (decode cX0_load 10 = .ok (.if_icmp .ge 19, 3))) ∧ ((decode cX0_load 13 = .ok (.aload_n 0, 1)) ∧ (decode cX0_load 14 = .ok (.getfield 11, 3))))) := by first | decide +kernel | ((repeat' apply And.intro) <;> decide +kernel)
theorem dX0_init_68 : decode cX0_init 68 = .ok (.aload_n 0, 1) := dB_36_0_2.1.1.1.1
theorem dX0_init_69 : decode cX0_init 69 = .ok (.aload_n 1, 1) := dB_36_0_2.1.1.1.2
theorem dX0_init_70 : decode cX0_init 70 = .ok (.putfield 35, 3) := dB_36_0_2.1.1.2.1
theorem dX0_init_73 : decode cX0_init 73 = .ok (.aload_n 0, 1) := dB_36_0_2.1.1.2.2
theorem dX0_init_74 : decode cX0_init 74 = .ok (.aload_n 2, 1) := dB_36_0_2.1.2.1.1
theorem dX0_init_75 : decode cX0_init 75 = .ok (.putfield 39, 3) := dB_36_0_2.1.2.1.2
theorem dX0_init_78 : decode cX0_init 78 = .ok (.return_, 1) := dB_36_0_2.1.2.2.1
theorem dX0_load_0 : decode cX0_load 0 = .ok (.iconst 0, 1) := dB_36_0_2.1.2.2.2
theorem dX0_load_1 : decode cX0_load 1 = .ok (.istore_n 2, 1) := dB_36_0_2.2.1.1.1
theorem dX0_load_2 : decode cX0_load 2 = .ok (.iload_n 2, 1) := dB_36_0_2.2.1.1.2
theorem dX0_load_3 : decode cX0_load 3 = .ok (.aload_n 0, 1) := dB_36_0_2.2.1.2.1
theorem dX0_load_4 : decode cX0_load 4 = .ok (.getfield 35, 3) := dB_36_0_2.2.1.2.2
theorem dX0_load_7 : decode cX0_load 7 = .ok (.getfield 43, 3) := dB_36_0_2.2.2.1.1
theorem dX0_load_10 : decode cX0_load 10 = .ok (.if_icmp .ge 19, 3) := dB_36_0_2.2.2.1.2
theorem dX0_load_13 : decode cX0_load 13 = .ok (.aload_n 0, 1) := dB_36_0_2.2.2.2.1
theorem dX0_load_14 : decode cX0_load 14 = .ok (.getfield 11, 3) := dB_36_0_2.2.2.2.2
theorem dB_36_0_3 : ((((decode cX0_load 17 = .ok (.iload_n 2, 1)) ∧ (decode cX0_load 18 = .ok (.aaload, 1))) ∧ ((decode cX0_load 19 = .ok (.iconst 0, 1)) ∧ (decode cX0_load 20 = .ok (.invokestatic 49, 3)))) ∧ (((decode cX0_load 23 = .ok (.iinc 2 1, 3)) ∧ (decode cX0_load 26 = .ok (.goto (-24), 3))) ∧ ((decode cX0_load 29 = .ok (.iconst 0, 1)) ∧ (decode cX0_load 30 = .ok (.istore_n 2, 1))))) ∧ ((((decode cX0_load 31 = .ok (.iload_n 2, 1)) ∧ (decode cX0_load 32 = .ok (.aload_n 0, 1))) ∧ ((decode cX0_load 33 = .ok (.getfield 35, 3)) ∧ (decode cX0_load 36 = .ok (.getfield 55, 3)))) ∧ (((decode cX0_load 39 = .ok (.if_icmp .ge 163, 3)) ∧ (decode cX0_load 42 = .ok (.aload_n 0, 1))) ∧ ((decode cX0_load 43 = .ok (.getfield 35, 3)) ∧ (decode cX0_load 46 = .ok (.iload_n 2, 1))))) := by first | decide +kernel | ((repeat' apply And.intro) <;> decide +kernel)
theorem dX0_load_17 : decode cX0_load 17 = .ok (.iload_n 2, 1) := dB_36_0_3.1.1.1.1
theorem dX0_load_18 : decode cX0_load 18 = .ok (.aaload, 1) := dB_36_0_3.1.1.1.2
theorem dX0_load_19 : decode cX0_load 19 = .ok (.iconst 0, 1) := dB_36_0_3.1.1.2.1
theorem dX0_load_20 : decode cX0_load 20 = .ok (.invokestatic 49, 3) := dB_36_0_3.1.1.2.2
theorem dX0_load_23 : decode cX0_load 23 = .ok (.iinc 2 1, 3) := dB_36_0_3.1.2.1.1
theorem dX0_load_26 : decode cX0_load 26 = .ok (.goto (-24), 3) := dB_36_0_3.1.2.1.2
theorem dX0_load_29 : decode cX0_load 29 = .ok (.iconst 0, 1) := dB_36_0_3.1.2.2.1
theorem dX0_load_30 : decode cX0_load 30 = .ok (.istore_n 2, 1) := dB_36_0_3.1.2.2.2
theorem dX0_load_31 : decode cX0_load 31 = .ok (.iload_n 2, 1) := dB_36_0_3.2.1.1.1
theorem dX0_load_32 : decode cX0_load 32 = .ok (.aload_n 0, 1) := dB_36_0_3.2.1.1.2
theorem dX0_load_33 : decode cX0_load 33 = .ok (.getfield 35, 3) := dB_36_0_3.2.1.2.1
theorem dX0_load_36 : decode cX0_load 36 = .ok (.getfield 55, 3) := dB_36_0_3.2.1.2.2
theorem dX0_load_39 : decode cX0_load 39 = .ok (.if_icmp .ge 163, 3) := dB_36_0_3.2.2.1.1
theorem dX0_load_42 : decode cX0_load 42 = .ok (.aload_n 0, 1) := dB_36_0_3.2.2.1.2
theorem dX0_load_43 : decode cX0_load 43 = .ok (.getfield 35, 3) := dB_36_0_3.2.2.2.1
theorem dX0_load_46 : decode cX0_load 46 = .ok (.iload_n 2, 1) := dB_36_0_3.2.2.2.2
theorem dB_36_0_4 : ((((decode cX0_load 47 = .ok (.invokevirtual 58, 3)) ∧ (decode cX0_load 50 = .ok (.ifCond .ne 146, 3))) ∧ ((decode cX0_load 53 = .ok (.iload_n 2, 1)) ∧ (decode cX0_load 54 = .ok (.iload_n 1, 1)))) ∧ (((decode cX0_load 55 = .ok (.if_icmp .ne 17, 3)) ∧ (decode cX0_load 58 = .ok (.aload_n 0, 1))) ∧ ((decode cX0_load 59 = .ok (.getfield 35, 3)) ∧ (decode cX0_load 62 = .ok (.getfield 62, 3))))) ∧ ((((decode cX0_load 65 = .ok (.iload_n 2, 1)) ∧ (decode cX0_load 66 = .ok (.iaload, 1))) ∧ ((decode cX0_load 67 = .ok (.iconst 1, 1)) ∧ (decode cX0_load 68 = .ok (.iadd, 1)))) ∧ (((decode cX0_load 69 = .ok (.goto 12, 3)) ∧ (decode cX0_load 72 = .ok (.aload_n 0, 1))) ∧ ((decode cX0_load 73 = .ok (.getfield 35, 3)) ∧ (decode cX0_load 76 = .ok (.getfield 62, 3))))) := by first | decide +kernel | ((repeat' apply And.intro) <;> decide +kernel)
theorem dX0_load_47 : decode cX0_load 47 = .ok (.invokevirtual 58, 3) := dB_36_0_4.1.1.1.1
theorem dX0_load_50 : decode cX0_load 50 = .ok (.ifCond .ne 146, 3) := dB_36_0_4.1.1.1.2
theorem dX0_load_53 : decode cX0_load 53 = .ok (.iload_n 2, 1) := dB_36_0_4.1.1.2.1
theorem dX0_load_54 : decode cX0_load 54 = .ok (.iload_n 1, 1) := dB_36_0_4.1.1.2.2
theorem dX0_load_55 : decode cX0_load 55 = .ok (.if_icmp .ne 17, 3) := dB_36_0_4.1.2.1.1
theorem dX0_load_58 : decode cX0_load 58 = .ok (.aload_n 0, 1) := dB_36_0_4.1.2.1.2
theorem dX0_load_59 : decode cX0_load 59 = .ok (.getfield 35, 3) := dB_36_0_4.1.2.2.1
theorem dX0_load_62 : decode cX0_load 62 = .ok (.getfield 62, 3) := dB_36_0_4.1.2.2.2
theorem dX0_load_65 : decode cX0_load 65 = .ok (.iload_n 2, 1) := dB_36_0_4.2.1.1.1
theorem dX0_load_66 : decode cX0_load 66 = .ok (.iaload, 1) := dB_36_0_4.2.1.1.2
theorem dX0_load_67 : decode cX0_load 67 = .ok (.iconst 1, 1) := dB_36_0_4.2.1.2.1
theorem dX0_load_68 : decode cX0_load 68 = .ok (.iadd, 1) := dB_36_0_4.2.1.2.2
theorem dX0_load_69 : decode cX0_load 69 = .ok (.goto 12, 3) := dB_36_0_4.2.2.1.1
theorem dX0_load_72 : decode cX0_load 72 = .ok (.aload_n 0, 1) := dB_36_0_4.2.2.1.2
theorem dX0_load_73 : decode cX0_load 73 = .ok (.getfield 35, 3) := dB_36_0_4.2.2.2.1
theorem dX0_load_76 : decode cX0_load 76 = .ok (.getfield 62, 3) := dB_36_0_4.2.2.2.2
theorem dB_36_0_5 : ((((decode cX0_load 79 = .ok (.iload_n 2, 1)) ∧ (decode cX0_load 80 = .ok (.iaload, 1))) ∧ ((decode cX0_load 81 = .ok (.istore_n 3, 1)) ∧ (decode cX0_load 82 = .ok (.aload_n 0, 1)))) ∧ (((decode cX0_load 83 = .ok (.getfield 39, 3)) ∧ (decode cX0_load 86 = .ok (.aload_n 0, 1))) ∧ ((decode cX0_load 87 = .ok (.getfield 35, 3)) ∧ (decode cX0_load 90 = .ok (.getfield 65, 3))))) ∧ ((((decode cX0_load 93 = .ok (.iload_n 2, 1)) ∧ (decode cX0_load 94 = .ok (.iaload, 1))) ∧ ((decode cX0_load 95 = .ok (.aaload, 1)) ∧ (decode cX0_load 96 = .ok (.astore 4, 2)))) ∧ (((decode cX0_load 98 = .ok (.aload_n 0, 1)) ∧ (decode cX0_load 99 = .ok (.getfield 23, 3))) ∧ ((decode cX0_load 102 = .ok (.iload_n 2, 1)) ∧ (decode cX0_load 103 = .ok (.aload 4, 2))))) := by first | decide +kernel | ((repeat' apply And.intro) <;> decide +kernel)
theorem dX0_load_79 : decode cX0_load 79 = .ok (.iload_n 2, 1) := dB_36_0_5.1.1.1.1
theorem dX0_load_80 : decode cX0_load 80 = .ok (.iaload, 1) := dB_36_0_5.1.1.1.2
theorem dX0_load_81 : decode cX0_load 81 = .ok (.istore_n 3, 1) := dB_36_0_5.1.1.2.1
theorem dX0_load_82 : decode cX0_load 82 = .ok (.aload_n 0, 1) := dB_36_0_5.1.1.2.2
theorem dX0_load_83 : decode cX0_load 83 = .ok (.getfield 39, 3) := dB_36_0_5.1.2.1.1
theorem dX0_load_86 : decode cX0_load 86 = .ok (.aload_n 0, 1) := dB_36_0_5.1.2.1.2
theorem dX0_load_87 : decode cX0_load 87 = .ok (.getfield 35, 3) := dB_36_0_5.1.2.2.1
theorem dX0_load_90 : decode cX0_load 90 = .ok (.getfield 65, 3) := dB_36_0_5.1.2.2.2
theorem dX0_load_93 : decode cX0_load 93 = .ok (.iload_n 2, 1) := dB_36_0_5.2.1.1.1
theorem dX0_load_94 : decode cX0_load 94 = .ok (.iaload, 1) := dB_36_0_5.2.1.1.2
theorem dX0_load_95 : decode cX0_load 95 = .ok (.aaload, 1) := dB_36_0_5.2.1.2.1
theorem dX0_load_96 : decode cX0_load 96 = .ok (.astore 4, 2) := dB_36_0_5.2.1.2.2
theorem dX0_load_98 : decode cX0_load 98 = .ok (.aload_n 0, 1) := dB_36_0_5.2.2.1.1
theorem dX0_load_99 : decode cX0_load 99 = .ok (.getfield 23, 3) := dB_36_0_5.2.2.1.2
theorem dX0_load_102 : decode cX0_load 102 = .ok (.iload_n 2, 1) := dB_36_0_5.2.2.2.1
theorem dX0_load_103 : decode cX0_load 103 = .ok (.aload 4, 2) := dB_36_0_5.2.2.2.2
theorem dB_36_0_6 : ((((decode cX0_load 105 = .ok (.iload_n 3, 1)) ∧ (decode cX0_load 106 = .ok (.iconst 1, 1))) ∧ ((decode cX0_load 107 = .ok (.invokevirtual 67, 3)) ∧ (decode cX0_load 110 = .ok (.invokestatic 72, 3)))) ∧ (((decode cX0_load 113 = .ok (.iastore, 1)) ∧ (decode cX0_load 114 = .ok (.aload_n 0, 1))) ∧ ((decode cX0_load 115 = .ok (.getfield 26, 3)) ∧ (decode cX0_load 118 = .ok (.iload_n 2, 1))))) ∧ ((((decode cX0_load 119 = .ok (.aload 4, 2)) ∧ (decode cX0_load 121 = .ok (.iload_n 3, 1))) ∧ ((decode cX0_load 122 = .ok (.iconst 0, 1)) ∧ (decode cX0_load 123 = .ok (.invokevirtual 67, 3)))) ∧ (((decode cX0_load 126 = .ok (.invokestatic 72, 3)) ∧ (decode cX0_load 129 = .ok (.iastore, 1))) ∧ ((decode cX0_load 130 = .ok (.aload_n 0, 1)) ∧ (decode cX0_load 131 = .ok (.getfield 11, 3))))) := by first | decide +kernel | ((repeat' apply And.intro) <;> decide +kernel)
theorem dX0_load_105 : decode cX0_load 105 = .ok (.iload_n 3, 1) := dB_36_0_6.1.1.1.1
theorem dX0_load_106 : decode cX0_load 106 = .ok (.iconst 1, 1) := dB_36_0_6.1.1.1.2
theorem dX0_load_107 : decode cX0_load 107 = .ok (.invokevirtual 67, 3) := dB_36_0_6.1.1.2.1
theorem dX0_load_110 : decode cX0_load 110 = .ok (.invokestatic 72, 3) := dB_36_0_6.1.1.2.2
theorem dX0_load_113 : decode cX0_load 113 = .ok (.iastore, 1) := dB_36_0_6.1.2.1.1
theorem dX0_load_114 : decode cX0_load 114 = .ok (.aload_n 0, 1) := dB_36_0_6.1.2.1.2
theorem dX0_load_115 : decode cX0_load 115 = .ok (.getfield 26, 3) := dB_36_0_6.1.2.2.1
theorem dX0_load_118 : decode cX0_load 118 = .ok (.iload_n 2, 1) := dB_36_0_6.1.2.2.2
theorem dX0_load_119 : decode cX0_load 119 = .ok (.aload 4, 2) := dB_36_0_6.2.1.1.1
theorem dX0_load_121 : decode cX0_load 121 = .ok (.iload_n 3, 1) := dB_36_0_6.2.1.1.2
theorem dX0_load_122 : decode cX0_load 122 = .ok (.iconst 0, 1) := dB_36_0_6.2.1.2.1
theorem dX0_load_123 : decode cX0_load 123 = .ok (.invokevirtual 67, 3) := dB_36_0_6.2.1.2.2
theorem dX0_load_126 : decode cX0_load 126 = .ok (.invokestatic 72, 3) := dB_36_0_6.2.2.1.1
theorem dX0_load_129 : decode cX0_load 129 = .ok (.iastore, 1) := dB_36_0_6.2.2.1.2
theorem dX0_load_130 : decode cX0_load 130 = .ok (.aload_n 0, 1) := dB_36_0_6.2.2.2.1
theorem dX0_load_131 : decode cX0_load 131 = .ok (.getfield 11, 3) := dB_36_0_6.2.2.2.2
theorem dB_36_0_7 : ((((decode cX0_load 134 = .ok (.aload_n 0, 1)) ∧ (decode cX0_load 135 = .ok (.getfield 35, 3))) ∧ ((decode cX0_load 138 = .ok (.getfield 76, 3)) ∧ (decode cX0_load 141 = .ok (.iload_n 2, 1)))) ∧ (((decode cX0_load 142 = .ok (.iaload, 1)) ∧ (decode cX0_load 143 = .ok (.aaload, 1))) ∧ ((decode cX0_load 144 = .ok (.aload_n 0, 1)) ∧ (decode cX0_load 145 = .ok (.getfield 35, 3))))) ∧ ((((decode cX0_load 148 = .ok (.getfield 79, 3)) ∧ (decode cX0_load 151 = .ok (.iload_n 2, 1))) ∧ ((decode cX0_load 152 = .ok (.iaload, 1)) ∧ (decode cX0_load 153 = .ok (.dup2, 1)))) ∧ (((decode cX0_load 154 = .ok (.iaload, 1)) ∧ (decode cX0_load 155 = .ok (.aload_n 0, 1))) ∧ ((decode cX0_load 156 = .ok (.getfield 23, 3)) ∧ (decode cX0_load 159 = .ok (.iload_n 2, 1))))) := by first | decide +kernel | ((repeat' apply And.intro) <;> decide +kernel)
theorem dX0_load_134 : decode cX0_load 134 = .ok (.aload_n 0, 1) := dB_36_0_7.1.1.1.1
theorem dX0_load_135 : decode cX0_load 135 = .ok (.getfield 35, 3) := dB_36_0_7.1.1.1.2
theorem dX0_load_138 : decode cX0_load 138 = .ok (.getfield 76, 3) := dB_36_0_7.1.1.2.1
theorem dX0_load_141 : decode cX0_load 141 = .ok (.iload_n 2, 1) := dB_36_0_7.1.1.2.2
theorem dX0_load_142 : decode cX0_load 142 = .ok (.iaload, 1) := dB_36_0_7.1.2.1.1
theorem dX0_load_143 : decode cX0_load 143 = .ok (.aaload, 1) := dB_36_0_7.1.2.1.2
theorem dX0_load_144 : decode cX0_load 144 = .ok (.aload_n 0, 1) := dB_36_0_7.1.2.2.1
theorem dX0_load_145 : decode cX0_load 145 = .ok (.getfield 35, 3) := dB_36_0_7.1.2.2.2
theorem dX0_load_148 : decode cX0_load 148 = .ok (.getfield 79, 3) := dB_36_0_7.2.1.1.1
theorem dX0_load_151 : decode cX0_load 151 = .ok (.iload_n 2, 1) := dB_36_0_7.2.1.1.2
theorem dX0_load_152 : decode cX0_load 152 = .ok (.iaload, 1) := dB_36_0_7.2.1.2.1
theorem dX0_load_153 : decode cX0_load 153 = .ok (.dup2, 1) := dB_36_0_7.2.1.2.2
theorem dX0_load_154 : decode cX0_load 154 = .ok (.iaload, 1) := dB_36_0_7.2.2.1.1
theorem dX0_load_155 : decode cX0_load 155 = .ok (.aload_n 0, 1) := dB_36_0_7.2.2.1.2
theorem dX0_load_156 : decode cX0_load 156 = .ok (.getfield 23, 3) := dB_36_0_7.2.2.2.1
theorem dX0_load_159 : decode cX0_load 159 = .ok (.iload_n 2, 1) := dB_36_0_7.2.2.2.2
theorem dB_36_0_8 : ((((decode cX0_load 160 = .ok (.iaload, 1)) ∧ (decode cX0_load 161 = .ok (.iadd, 1))) ∧ ((decode cX0_load 162 = .ok (.iastore, 1)) ∧ (decode cX0_load 163 = .ok (.aload_n 0, 1)))) ∧ (((decode cX0_load 164 = .ok (.getfield 11, 3)) ∧ (decode cX0_load 167 = .ok (.aload_n 0, 1))) ∧ ((decode cX0_load 168 = .ok (.getfield 35, 3)) ∧ (decode cX0_load 171 = .ok (.getfield 79, 3))))) ∧ ((((decode cX0_load 174 = .ok (.iload_n 2, 1)) ∧ (decode cX0_load 175 = .ok (.iaload, 1))) ∧ ((decode cX0_load 176 = .ok (.aaload, 1)) ∧ (decode cX0_load 177 = .ok (.aload_n 0, 1)))) ∧ (((decode cX0_load 178 = .ok (.getfield 35, 3)) ∧ (decode cX0_load 181 = .ok (.getfield 76, 3))) ∧ ((decode cX0_load 184 = .ok (.iload_n 2, 1)) ∧ (decode cX0_load 185 = .ok (.iaload, 1))))) := by first | decide +kernel | ((repeat' apply And.intro) <;> decide +kernel)
theorem dX0_load_160 : decode cX0_load 160 = .ok (.iaload, 1) := dB_36_0_8.1.1.1.1
theorem dX0_load_161 : decode cX0_load 161 = .ok (.iadd, 1) := dB_36_0_8.1.1.1.2
theorem dX0_load_162 : decode cX0_load 162 = .ok (.iastore, 1) := dB_36_0_8.1.1.2.1
theorem dX0_load_163 : decode cX0_load 163 = .ok (.aload_n 0, 1) := dB_36_0_8.1.1.2.2
theorem dX0_load_164 : decode cX0_load 164 = .ok (.getfield 11, 3) := dB_36_0_8.1.2.1.1
theorem dX0_load_167 : decode cX0_load 167 = .ok (.aload_n 0, 1) := dB_36_0_8.1.2.1.2
theorem dX0_load_168 : decode cX0_load 168 = .ok (.getfield 35, 3) := dB_36_0_8.1.2.2.1
theorem dX0_load_171 : decode cX0_load 171 = .ok (.getfield 79, 3) := dB_36_0_8.1.2.2.2
theorem dX0_load_174 : decode cX0_load 174 = .ok (.iload_n 2, 1) := dB_36_0_8.2.1.1.1
theorem dX0_load_175 : decode cX0_load 175 = .ok (.iaload, 1) := dB_36_0_8.2.1.1.2
theorem dX0_load_176 : decode cX0_load 176 = .ok (.aaload, 1) := dB_36_0_8.2.1.2.1
theorem dX0_load_177 : decode cX0_load 177 = .ok (.aload_n 0, 1) := dB_36_0_8.2.1.2.2
theorem dX0_load_178 : decode cX0_load 178 = .ok (.getfield 35, 3) := dB_36_0_8.2.2.1.1
theorem dX0_load_181 : decode cX0_load 181 = .ok (.getfield 76, 3) := dB_36_0_8.2.2.1.2
theorem dX0_load_184 : decode cX0_load 184 = .ok (.iload_n 2, 1) := dB_36_0_8.2.2.2.1
theorem dX0_load_185 : decode cX0_load 185 = .ok (.iaload, 1) := dB_36_0_8.2.2.2.2
theorem dB_36_0_9 : ((((decode cX0_load 186 = .ok (.dup2, 1)) ∧ (decode cX0_load 187 = .ok (.iaload, 1))) ∧ ((decode cX0_load 188 = .ok (.aload_n 0, 1)) ∧ (decode cX0_load 189 = .ok (.getfield 26, 3)))) ∧ (((decode cX0_load 192 = .ok (.iload_n 2, 1)) ∧ (decode cX0_load 193 = .ok (.iaload, 1))) ∧ ((decode cX0_load 194 = .ok (.iadd, 1)) ∧ (decode cX0_load 195 = .ok (.iastore, 1))))) ∧ ((((decode cX0_load 196 = .ok (.iinc 2 1, 3)) ∧ (decode cX0_load 199 = .ok (.goto (-168), 3))) ∧ ((decode cX0_load 202 = .ok (.return_, 1)) ∧ (decode cX0_asRoom 0 = .ok (.iload_n 0, 1)))) ∧ (((decode cX0_asRoom 1 = .ok (.bipush (-5), 2)) ∧ (decode cX0_asRoom 3 = .ok (.if_icmp .ne 8, 3))) ∧ ((decode cX0_asRoom 6 = .ok (.ldc 82, 2)) ∧ (decode cX0_asRoom 8 = .ok (.goto 4, 3))))) := by first | decide +kernel | ((repeat' apply And.intro) <;> decide +kernel)
theorem dX0_load_186 : decode cX0_load 186 = .ok (.dup2, 1) := dB_36_0_9.1.1.1.1
theorem dX0_load_187 : decode cX0_load 187 = .ok (.iaload, 1) := dB_36_0_9.1.1.1.2
theorem dX0_load_188 : decode cX0_load 188 = .ok (.aload_n 0, 1) := dB_36_0_9.1.1.2.1
theorem dX0_load_189 : decode cX0_load 189 = .ok (.getfield 26, 3) := dB_36_0_9.1.1.2.2
theorem dX0_load_192 : decode cX0_load 192 = .ok (.iload_n 2, 1) := dB_36_0_9.1.2.1.1
theorem dX0_load_193 : decode cX0_load 193 = .ok (.iaload, 1) := dB_36_0_9.1.2.1.2
theorem dX0_load_194 : decode cX0_load 194 = .ok (.iadd, 1) := dB_36_0_9.1.2.2.1
theorem dX0_load_195 : decode cX0_load 195 = .ok (.iastore, 1) := dB_36_0_9.1.2.2.2
theorem dX0_load_196 : decode cX0_load 196 = .ok (.iinc 2 1, 3) := dB_36_0_9.2.1.1.1
theorem dX0_load_199 : decode cX0_load 199 = .ok (.goto (-168), 3) := dB_36_0_9.2.1.1.2
theorem dX0_load_202 : decode cX0_load 202 = .ok (.return_, 1) := dB_36_0_9.2.1.2.1
theorem dX0_asRoom_0 : decode cX0_asRoom 0 = .ok (.iload_n 0, 1) := dB_36_0_9.2.1.2.2
theorem dX0_asRoom_1 : decode cX0_asRoom 1 = .ok (.bipush (-5), 2) := dB_36_0_9.2.2.1.1
theorem dX0_asRoom_3 : decode cX0_asRoom 3 = .ok (.if_icmp .ne 8, 3) := dB_36_0_9.2.2.1.2
theorem dX0_asRoom_6 : decode cX0_asRoom 6 = .ok (.ldc 82, 2) := dB_36_0_9.2.2.2.1
theorem dX0_asRoom_8 : decode cX0_asRoom 8 = .ok (.goto 4, 3) := dB_36_0_9.2.2.2.2
theorem dB_36_0_10 : ((((decode cX0_asRoom 11 = .ok (.iload_n 0, 1)) ∧ (decode cX0_asRoom 12 = .ok (.ireturn, 1))) ∧ ((decode cX0_fill 0 = .ok (.aload_n 0, 1)) ∧ (decode cX0_fill 1 = .ok (.getfield 19, 3)))) ∧ (((decode cX0_fill 4 = .ok (.iconst 0, 1)) ∧ (decode cX0_fill 5 = .ok (.invokestatic 49, 3))) ∧ ((decode cX0_fill 8 = .ok (.iconst 0, 1)) ∧ (decode cX0_fill 9 = .ok (.istore_n 3, 1))))) ∧ ((((decode cX0_fill 10 = .ok (.iload_n 3, 1)) ∧ (decode cX0_fill 11 = .ok (.aload_n 0, 1))) ∧ ((decode cX0_fill 12 = .ok (.getfield 35, 3)) ∧ (decode cX0_fill 15 = .ok (.getfield 43, 3)))) ∧ (((decode cX0_fill 18 = .ok (.if_icmp .ge 33, 3)) ∧ (decode cX0_fill 21 = .ok (.aload_n 0, 1))) ∧ ((decode cX0_fill 22 = .ok (.getfield 11, 3)) ∧ (decode cX0_fill 25 = .ok (.iload_n 3, 1))))) := by first | decide +kernel | ((repeat' apply And.intro) <;> decide +kernel)
theorem dX0_asRoom_11 : decode cX0_asRoom 11 = .ok (.iload_n 0, 1) := dB_36_0_10.1.1.1.1
theorem dX0_asRoom_12 : decode cX0_asRoom 12 = .ok (.ireturn, 1) := dB_36_0_10.1.1.1.2
theorem dX0_fill_0 : decode cX0_fill 0 = .ok (.aload_n 0, 1) := dB_36_0_10.1.1.2.1
theorem dX0_fill_1 : decode cX0_fill 1 = .ok (.getfield 19, 3) := dB_36_0_10.1.1.2.2
theorem dX0_fill_4 : decode cX0_fill 4 = .ok (.iconst 0, 1) := dB_36_0_10.1.2.1.1
theorem dX0_fill_5 : decode cX0_fill 5 = .ok (.invokestatic 49, 3) := dB_36_0_10.1.2.1.2
theorem dX0_fill_8 : decode cX0_fill 8 = .ok (.iconst 0, 1) := dB_36_0_10.1.2.2.1
theorem dX0_fill_9 : decode cX0_fill 9 = .ok (.istore_n 3, 1) := dB_36_0_10.1.2.2.2
theorem dX0_fill_10 : decode cX0_fill 10 = .ok (.iload_n 3, 1) := dB_36_0_10.2.1.1.1
theorem dX0_fill_11 : decode cX0_fill 11 = .ok (.aload_n 0, 1) := dB_36_0_10.2.1.1.2
theorem dX0_fill_12 : decode cX0_fill 12 = .ok (.getfield 35, 3) := dB_36_0_10.2.1.2.1
theorem dX0_fill_15 : decode cX0_fill 15 = .ok (.getfield 43, 3) := dB_36_0_10.2.1.2.2
theorem dX0_fill_18 : decode cX0_fill 18 = .ok (.if_icmp .ge 33, 3) := dB_36_0_10.2.2.1.1
theorem dX0_fill_21 : decode cX0_fill 21 = .ok (.aload_n 0, 1) := dB_36_0_10.2.2.1.2
theorem dX0_fill_22 : decode cX0_fill 22 = .ok (.getfield 11, 3) := dB_36_0_10.2.2.2.1
theorem dX0_fill_25 : decode cX0_fill 25 = .ok (.iload_n 3, 1) := dB_36_0_10.2.2.2.2
theorem dB_36_0_11 : ((((decode cX0_fill 26 = .ok (.aaload, 1)) ∧ (decode cX0_fill 27 = .ok (.iconst 0, 1))) ∧ ((decode cX0_fill 28 = .ok (.aload_n 0, 1)) ∧ (decode cX0_fill 29 = .ok (.getfield 16, 3)))) ∧ (((decode cX0_fill 32 = .ok (.iload_n 3, 1)) ∧ (decode cX0_fill 33 = .ok (.aaload, 1))) ∧ ((decode cX0_fill 34 = .ok (.iconst 0, 1)) ∧ (decode cX0_fill 35 = .ok (.aload_n 0, 1))))) ∧ ((((decode cX0_fill 36 = .ok (.getfield 35, 3)) ∧ (decode cX0_fill 39 = .ok (.getfield 43, 3))) ∧ ((decode cX0_fill 42 = .ok (.invokestatic 83, 3)) ∧ (decode cX0_fill 45 = .ok (.iinc 3 1, 3)))) ∧ (((decode cX0_fill 48 = .ok (.goto (-38), 3)) ∧ (decode cX0_fill 51 = .ok (.aload_n 0, 1))) ∧ ((decode cX0_fill 52 = .ok (.iload_n 1, 1)) ∧ (decode cX0_fill 53 = .ok (.ldc 82, 2))))) := by first | decide +kernel | ((repeat' apply And.intro) <;> decide +kernel)
theorem dX0_fill_26 : decode cX0_fill 26 = .ok (.aaload, 1) := dB_36_0_11.1.1.1.1
theorem dX0_fill_27 : decode cX0_fill 27 = .ok (.iconst 0, 1) := dB_36_0_11.1.1.1.2
theorem dX0_fill_28 : decode cX0_fill 28 = .ok (.aload_n 0, 1) := dB_36_0_11.1.1.2.1
theorem dX0_fill_29 : decode cX0_fill 29 = .ok (.getfield 16, 3) := dB_36_0_11.1.1.2.2
theorem dX0_fill_32 : decode cX0_fill 32 = .ok (.iload_n 3, 1) := dB_36_0_11.1.2.1.1
theorem dX0_fill_33 : decode cX0_fill 33 = .ok (.aaload, 1) := dB_36_0_11.1.2.1.2
theorem dX0_fill_34 : decode cX0_fill 34 = .ok (.iconst 0, 1) := dB_36_0_11.1.2.2.1
theorem dX0_fill_35 : decode cX0_fill 35 = .ok (.aload_n 0, 1) := dB_36_0_11.1.2.2.2
theorem dX0_fill_36 : decode cX0_fill 36 = .ok (.getfield 35, 3) := dB_36_0_11.2.1.1.1
theorem dX0_fill_39 : decode cX0_fill 39 = .ok (.getfield 43, 3) := dB_36_0_11.2.1.1.2
theorem dX0_fill_42 : decode cX0_fill 42 = .ok (.invokestatic 83, 3) := dB_36_0_11.2.1.2.1
theorem dX0_fill_45 : decode cX0_fill 45 = .ok (.iinc 3 1, 3) := dB_36_0_11.2.1.2.2
theorem dX0_fill_48 : decode cX0_fill 48 = .ok (.goto (-38), 3) := dB_36_0_11.2.2.1.1
theorem dX0_fill_51 : decode cX0_fill 51 = .ok (.aload_n 0, 1) := dB_36_0_11.2.2.1.2
theorem dX0_fill_52 : decode cX0_fill 52 = .ok (.iload_n 1, 1) := dB_36_0_11.2.2.2.1
theorem dX0_fill_53 : decode cX0_fill 53 = .ok (.ldc 82, 2) := dB_36_0_11.2.2.2.2
theorem dB_36_0_12 : ((((decode cX0_fill 55 = .ok (.invokevirtual 89, 3)) ∧ (decode cX0_fill 58 = .ok (.iload_n 2, 1))) ∧ ((decode cX0_fill 59 = .ok (.ishr, 1)) ∧ (decode cX0_fill 60 = .ok (.iconst 1, 1)))) ∧ (((decode cX0_fill 61 = .ok (.iand, 1)) ∧ (decode cX0_fill 62 = .ok (.iconst 1, 1))) ∧ ((decode cX0_fill 63 = .ok (.if_icmp .ne 6, 3)) ∧ (decode cX0_fill 66 = .ok (.bipush (-5), 2))))) ∧ ((((decode cX0_fill 68 = .ok (.ireturn, 1)) ∧ (decode cX0_fill 69 = .ok (.iconst 0, 1))) ∧ ((decode cX0_fill 70 = .ok (.istore_n 3, 1)) ∧ (decode cX0_fill 71 = .ok (.iconst 0, 1)))) ∧ (((decode cX0_fill 72 = .ok (.istore 4, 2)) ∧ (decode cX0_fill 74 = .ok (.iload 4, 2))) ∧ ((decode cX0_fill 76 = .ok (.ldc 82, 2)) ∧ (decode cX0_fill 78 = .ok (.if_icmp .ge 27, 3))))) := by first | decide +kernel | ((repeat' apply And.intro) <;> decide +kernel)
theorem dX0_fill_55 : decode cX0_fill 55 = .ok (.invokevirtual 89, 3) := dB_36_0_12.1.1.1.1
theorem dX0_fill_58 : decode cX0_fill 58 = .ok (.iload_n 2, 1) := dB_36_0_12.1.1.1.2
theorem dX0_fill_59 : decode cX0_fill 59 = .ok (.ishr, 1) := dB_36_0_12.1.1.2.1
theorem dX0_fill_60 : decode cX0_fill 60 = .ok (.iconst 1, 1) := dB_36_0_12.1.1.2.2
theorem dX0_fill_61 : decode cX0_fill 61 = .ok (.iand, 1) := dB_36_0_12.1.2.1.1
theorem dX0_fill_62 : decode cX0_fill 62 = .ok (.iconst 1, 1) := dB_36_0_12.1.2.1.2
theorem dX0_fill_63 : decode cX0_fill 63 = .ok (.if_icmp .ne 6, 3) := dB_36_0_12.1.2.2.1
theorem dX0_fill_66 : decode cX0_fill 66 = .ok (.bipush (-5), 2) := dB_36_0_12.1.2.2.2
theorem dX0_fill_68 : decode cX0_fill 68 = .ok (.ireturn, 1) := dB_36_0_12.2.1.1.1
theorem dX0_fill_69 : decode cX0_fill 69 = .ok (.iconst 0, 1) := dB_36_0_12.2.1.1.2
theorem dX0_fill_70 : decode cX0_fill 70 = .ok (.istore_n 3, 1) := dB_36_0_12.2.1.2.1
theorem dX0_fill_71 : decode cX0_fill 71 = .ok (.iconst 0, 1) := dB_36_0_12.2.1.2.2
theorem dX0_fill_72 : decode cX0_fill 72 = .ok (.istore 4, 2) := dB_36_0_12.2.2.1.1
theorem dX0_fill_74 : decode cX0_fill 74 = .ok (.iload 4, 2) := dB_36_0_12.2.2.1.2
theorem dX0_fill_76 : decode cX0_fill 76 = .ok (.ldc 82, 2) := dB_36_0_12.2.2.2.1
theorem dX0_fill_78 : decode cX0_fill 78 = .ok (.if_icmp .ge 27, 3) := dB_36_0_12.2.2.2.2
theorem dB_36_0_13 : ((((decode cX0_fill 81 = .ok (.aload_n 0, 1)) ∧ (decode cX0_fill 82 = .ok (.iload_n 1, 1))) ∧ ((decode cX0_fill 83 = .ok (.iload_n 2, 1)) ∧ (decode cX0_fill 84 = .ok (.invokevirtual 93, 3)))) ∧ (((decode cX0_fill 87 = .ok (.ifCond .eq 18, 3)) ∧ (decode cX0_fill 90 = .ok (.iload_n 3, 1))) ∧ ((decode cX0_fill 91 = .ok (.aload_n 0, 1)) ∧ (decode cX0_fill 92 = .ok (.iload_n 1, 1))))) ∧ ((((decode cX0_fill 93 = .ok (.iload_n 2, 1)) ∧ (decode cX0_fill 94 = .ok (.invokevirtual 97, 3))) ∧ ((decode cX0_fill 97 = .ok (.iadd, 1)) ∧ (decode cX0_fill 98 = .ok (.istore_n 3, 1)))) ∧ (((decode cX0_fill 99 = .ok (.iinc 4 1, 3)) ∧ (decode cX0_fill 102 = .ok (.goto (-28), 3))) ∧ ((decode cX0_fill 105 = .ok (.iload_n 3, 1)) ∧ (decode cX0_fill 106 = .ok (.ireturn, 1))))) := by first | decide +kernel | ((repeat' apply And.intro) <;> decide +kernel)
theorem dX0_fill_81 : decode cX0_fill 81 = .ok (.aload_n 0, 1) := dB_36_0_13.1.1.1.1
theorem dX0_fill_82 : decode cX0_fill 82 = .ok (.iload_n 1, 1) := dB_36_0_13.1.1.1.2
theorem dX0_fill_83 : decode cX0_fill 83 = .ok (.iload_n 2, 1) := dB_36_0_13.1.1.2.1
theorem dX0_fill_84 : decode cX0_fill 84 = .ok (.invokevirtual 93, 3) := dB_36_0_13.1.1.2.2
theorem dX0_fill_87 : decode cX0_fill 87 = .ok (.ifCond .eq 18, 3) := dB_36_0_13.1.2.1.1
theorem dX0_fill_90 : decode cX0_fill 90 = .ok (.iload_n 3, 1) := dB_36_0_13.1.2.1.2
theorem dX0_fill_91 : decode cX0_fill 91 = .ok (.aload_n 0, 1) := dB_36_0_13.1.2.2.1
theorem dX0_fill_92 : decode cX0_fill 92 = .ok (.iload_n 1, 1) := dB_36_0_13.1.2.2.2
theorem dX0_fill_93 : decode cX0_fill 93 = .ok (.iload_n 2, 1) := dB_36_0_13.2.1.1.1
theorem dX0_fill_94 : decode cX0_fill 94 = .ok (.invokevirtual 97, 3) := dB_36_0_13.2.1.1.2
theorem dX0_fill_97 : decode cX0_fill 97 = .ok (.iadd, 1) := dB_36_0_13.2.1.2.1
theorem dX0_fill_98 : decode cX0_fill 98 = .ok (.istore_n 3, 1) := dB_36_0_13.2.1.2.2
theorem dX0_fill_99 : decode cX0_fill 99 = .ok (.iinc 4 1, 3) := dB_36_0_13.2.2.1.1
theorem dX0_fill_102 : decode cX0_fill 102 = .ok (.goto (-28), 3) := dB_36_0_13.2.2.1.2
theorem dX0_fill_105 : decode cX0_fill 105 = .ok (.iload_n 3, 1) := dB_36_0_13.2.2.2.1
theorem dX0_fill_106 : decode cX0_fill 106 = .ok (.ireturn, 1) := dB_36_0_13.2.2.2.2
theorem dB_36_0_14 : ((((decode cX0_findWay 0 = .ok (.iconst 1, 1)) ∧ (decode cX0_findWay 1 = .ok (.iload_n 1, 1))) ∧ ((decode cX0_findWay 2 = .ok (.ishl, 1)) ∧ (decode cX0_findWay 3 = .ok (.istore_n 3, 1)))) ∧ (((decode cX0_findWay 4 = .ok (.iconst 1, 1)) ∧ (decode cX0_findWay 5 = .ok (.istore 4, 2))) ∧ ((decode cX0_findWay 7 = .ok (.aload_n 0, 1)) ∧ (decode cX0_findWay 8 = .ok (.getfield 29, 3))))) ∧ ((((decode cX0_findWay 11 = .ok (.iconst 0, 1)) ∧ (decode cX0_findWay 12 = .ok (.iload_n 1, 1))) ∧ ((decode cX0_findWay 13 = .ok (.iastore, 1)) ∧ (decode cX0_findWay 14 = .ok (.iconst 0, 1)))) ∧ (((decode cX0_findWay 15 = .ok (.istore 5, 2)) ∧ (decode cX0_findWay 17 = .ok (.iload 5, 2))) ∧ ((decode cX0_findWay 19 = .ok (.iload 4, 2)) ∧ (decode cX0_findWay 21 = .ok (.if_icmp .ge 104, 3))))) := by first | decide +kernel | ((repeat' apply And.intro) <;> decide +kernel)
theorem dX0_findWay_0 : decode cX0_findWay 0 = .ok (.iconst 1, 1) := dB_36_0_14.1.1.1.1
theorem dX0_findWay_1 : decode cX0_findWay 1 = .ok (.iload_n 1, 1) := dB_36_0_14.1.1.1.2
theorem dX0_findWay_2 : decode cX0_findWay 2 = .ok (.ishl, 1) := dB_36_0_14.1.1.2.1
theorem dX0_findWay_3 : decode cX0_findWay 3 = .ok (.istore_n 3, 1) := dB_36_0_14.1.1.2.2
theorem dX0_findWay_4 : decode cX0_findWay 4 = .ok (.iconst 1, 1) := dB_36_0_14.1.2.1.1
theorem dX0_findWay_5 : decode cX0_findWay 5 = .ok (.istore 4, 2) := dB_36_0_14.1.2.1.2
theorem dX0_findWay_7 : decode cX0_findWay 7 = .ok (.aload_n 0, 1) := dB_36_0_14.1.2.2.1
theorem dX0_findWay_8 : decode cX0_findWay 8 = .ok (.getfield 29, 3) := dB_36_0_14.1.2.2.2
theorem dX0_findWay_11 : decode cX0_findWay 11 = .ok (.iconst 0, 1) := dB_36_0_14.2.1.1.1
theorem dX0_findWay_12 : decode cX0_findWay 12 = .ok (.iload_n 1, 1) := dB_36_0_14.2.1.1.2
theorem dX0_findWay_13 : decode cX0_findWay 13 = .ok (.iastore, 1) := dB_36_0_14.2.1.2.1
theorem dX0_findWay_14 : decode cX0_findWay 14 = .ok (.iconst 0, 1) := dB_36_0_14.2.1.2.2
theorem dX0_findWay_15 : decode cX0_findWay 15 = .ok (.istore 5, 2) := dB_36_0_14.2.2.1.1
theorem dX0_findWay_17 : decode cX0_findWay 17 = .ok (.iload 5, 2) := dB_36_0_14.2.2.1.2
theorem dX0_findWay_19 : decode cX0_findWay 19 = .ok (.iload 4, 2) := dB_36_0_14.2.2.2.1
theorem dX0_findWay_21 : decode cX0_findWay 21 = .ok (.if_icmp .ge 104, 3) := dB_36_0_14.2.2.2.2
theorem dB_36_0_15 : ((((decode cX0_findWay 24 = .ok (.iload 5, 2)) ∧ (decode cX0_findWay 26 = .ok (.bipush 12, 2))) ∧ ((decode cX0_findWay 28 = .ok (.if_icmp .ge 97, 3)) ∧ (decode cX0_findWay 31 = .ok (.aload_n 0, 1)))) ∧ (((decode cX0_findWay 32 = .ok (.getfield 29, 3)) ∧ (decode cX0_findWay 35 = .ok (.iload 5, 2))) ∧ ((decode cX0_findWay 37 = .ok (.iaload, 1)) ∧ (decode cX0_findWay 38 = .ok (.istore 6, 2))))) ∧ ((((decode cX0_findWay 40 = .ok (.iconst 0, 1)) ∧ (decode cX0_findWay 41 = .ok (.istore 7, 2))) ∧ ((decode cX0_findWay 43 = .ok (.iload 7, 2)) ∧ (decode cX0_findWay 45 = .ok (.aload_n 0, 1)))) ∧ (((decode cX0_findWay 46 = .ok (.getfield 35, 3)) ∧ (decode cX0_findWay 49 = .ok (.getfield 43, 3))) ∧ ((decode cX0_findWay 52 = .ok (.if_icmp .ge 67, 3)) ∧ (decode cX0_findWay 55 = .ok (.iload_n 3, 1))))) := by first | decide +kernel | ((repeat' apply And.intro) <;> decide +kernel)
theorem dX0_findWay_24 : decode cX0_findWay 24 = .ok (.iload 5, 2) := dB_36_0_15.1.1.1.1
theorem dX0_findWay_26 : decode cX0_findWay 26 = .ok (.bipush 12, 2) := dB_36_0_15.1.1.1.2
theorem dX0_findWay_28 : decode cX0_findWay 28 = .ok (.if_icmp .ge 97, 3) := dB_36_0_15.1.1.2.1
theorem dX0_findWay_31 : decode cX0_findWay 31 = .ok (.aload_n 0, 1) := dB_36_0_15.1.1.2.2
theorem dX0_findWay_32 : decode cX0_findWay 32 = .ok (.getfield 29, 3) := dB_36_0_15.1.2.1.1
theorem dX0_findWay_35 : decode cX0_findWay 35 = .ok (.iload 5, 2) := dB_36_0_15.1.2.1.2
theorem dX0_findWay_37 : decode cX0_findWay 37 = .ok (.iaload, 1) := dB_36_0_15.1.2.2.1
theorem dX0_findWay_38 : decode cX0_findWay 38 = .ok (.istore 6, 2) := dB_36_0_15.1.2.2.2
theorem dX0_findWay_40 : decode cX0_findWay 40 = .ok (.iconst 0, 1) := dB_36_0_15.2.1.1.1
theorem dX0_findWay_41 : decode cX0_findWay 41 = .ok (.istore 7, 2) := dB_36_0_15.2.1.1.2
theorem dX0_findWay_43 : decode cX0_findWay 43 = .ok (.iload 7, 2) := dB_36_0_15.2.1.2.1
theorem dX0_findWay_45 : decode cX0_findWay 45 = .ok (.aload_n 0, 1) := dB_36_0_15.2.1.2.2
theorem dX0_findWay_46 : decode cX0_findWay 46 = .ok (.getfield 35, 3) := dB_36_0_15.2.2.1.1
theorem dX0_findWay_49 : decode cX0_findWay 49 = .ok (.getfield 43, 3) := dB_36_0_15.2.2.1.2
theorem dX0_findWay_52 : decode cX0_findWay 52 = .ok (.if_icmp .ge 67, 3) := dB_36_0_15.2.2.2.1
theorem dX0_findWay_55 : decode cX0_findWay 55 = .ok (.iload_n 3, 1) := dB_36_0_15.2.2.2.2
theorem dB_36_0_16 : ((((decode cX0_findWay 56 = .ok (.iload 7, 2)) ∧ (decode cX0_findWay 58 = .ok (.ishr, 1))) ∧ ((decode cX0_findWay 59 = .ok (.iconst 1, 1)) ∧ (decode cX0_findWay 60 = .ok (.iand, 1)))) ∧ (((decode cX0_findWay 61 = .ok (.ifCond .ne 52, 3)) ∧ (decode cX0_findWay 64 = .ok (.aload_n 0, 1))) ∧ ((decode cX0_findWay 65 = .ok (.getfield 16, 3)) ∧ (decode cX0_findWay 68 = .ok (.iload 6, 2))))) ∧ ((((decode cX0_findWay 70 = .ok (.aaload, 1)) ∧ (decode cX0_findWay 71 = .ok (.iload 7, 2))) ∧ ((decode cX0_findWay 73 = .ok (.iaload, 1)) ∧ (decode cX0_findWay 74 = .ok (.ifCond .le 39, 3)))) ∧ (((decode cX0_findWay 77 = .ok (.aload_n 0, 1)) ∧ (decode cX0_findWay 78 = .ok (.getfield 32, 3))) ∧ ((decode cX0_findWay 81 = .ok (.iload 7, 2)) ∧ (decode cX0_findWay 83 = .ok (.iload 6, 2))))) := by first | decide +kernel | ((repeat' apply And.intro) <;> decide +kernel)
theorem dX0_findWay_56 : decode cX0_findWay 56 = .ok (.iload 7, 2) := dB_36_0_16.1.1.1.1
theorem dX0_findWay_58 : decode cX0_findWay 58 = .ok (.ishr, 1) := dB_36_0_16.1.1.1.2
theorem dX0_findWay_59 : decode cX0_findWay 59 = .ok (.iconst 1, 1) := dB_36_0_16.1.1.2.1
theorem dX0_findWay_60 : decode cX0_findWay 60 = .ok (.iand, 1) := dB_36_0_16.1.1.2.2
theorem dX0_findWay_61 : decode cX0_findWay 61 = .ok (.ifCond .ne 52, 3) := dB_36_0_16.1.2.1.1
theorem dX0_findWay_64 : decode cX0_findWay 64 = .ok (.aload_n 0, 1) := dB_36_0_16.1.2.1.2
theorem dX0_findWay_65 : decode cX0_findWay 65 = .ok (.getfield 16, 3) := dB_36_0_16.1.2.2.1
theorem dX0_findWay_68 : decode cX0_findWay 68 = .ok (.iload 6, 2) := dB_36_0_16.1.2.2.2
theorem dX0_findWay_70 : decode cX0_findWay 70 = .ok (.aaload, 1) := dB_36_0_16.2.1.1.1
theorem dX0_findWay_71 : decode cX0_findWay 71 = .ok (.iload 7, 2) := dB_36_0_16.2.1.1.2
theorem dX0_findWay_73 : decode cX0_findWay 73 = .ok (.iaload, 1) := dB_36_0_16.2.1.2.1
theorem dX0_findWay_74 : decode cX0_findWay 74 = .ok (.ifCond .le 39, 3) := dB_36_0_16.2.1.2.2
theorem dX0_findWay_77 : decode cX0_findWay 77 = .ok (.aload_n 0, 1) := dB_36_0_16.2.2.1.1
theorem dX0_findWay_78 : decode cX0_findWay 78 = .ok (.getfield 32, 3) := dB_36_0_16.2.2.1.2
theorem dX0_findWay_81 : decode cX0_findWay 81 = .ok (.iload 7, 2) := dB_36_0_16.2.2.2.1
theorem dX0_findWay_83 : decode cX0_findWay 83 = .ok (.iload 6, 2) := dB_36_0_16.2.2.2.2
theorem dB_36_0_17 : ((((decode cX0_findWay 85 = .ok (.iastore, 1)) ∧ (decode cX0_findWay 86 = .ok (.iload 7, 2))) ∧ ((decode cX0_findWay 88 = .ok (.iload_n 2, 1)) ∧ (decode cX0_findWay 89 = .ok (.if_icmp .ne 5, 3)))) ∧ (((decode cX0_findWay 92 = .ok (.iconst 1, 1)) ∧ (decode cX0_findWay 93 = .ok (.ireturn, 1))) ∧ ((decode cX0_findWay 94 = .ok (.iload_n 3, 1)) ∧ (decode cX0_findWay 95 = .ok (.iconst 1, 1))))) ∧ ((((decode cX0_findWay 96 = .ok (.iload 7, 2)) ∧ (decode cX0_findWay 98 = .ok (.ishl, 1))) ∧ ((decode cX0_findWay 99 = .ok (.ior, 1)) ∧ (decode cX0_findWay 100 = .ok (.istore_n 3, 1)))) ∧ (((decode cX0_findWay 101 = .ok (.aload_n 0, 1)) ∧ (decode cX0_findWay 102 = .ok (.getfield 29, 3))) ∧ ((decode cX0_findWay 105 = .ok (.iload 4, 2)) ∧ (decode cX0_findWay 107 = .ok (.iload 7, 2))))) := by first | decide +kernel | ((repeat' apply And.intro) <;> decide +kernel)
theorem dX0_findWay_85 : decode cX0_findWay 85 = .ok (.iastore, 1) := dB_36_0_17.1.1.1.1
theorem dX0_findWay_86 : decode cX0_findWay 86 = .ok (.iload 7, 2) := dB_36_0_17.1.1.1.2
theorem dX0_findWay_88 : decode cX0_findWay 88 = .ok (.iload_n 2, 1) := dB_36_0_17.1.1.2.1
theorem dX0_findWay_89 : decode cX0_findWay 89 = .ok (.if_icmp .ne 5, 3) := dB_36_0_17.1.1.2.2
theorem dX0_findWay_92 : decode cX0_findWay 92 = .ok (.iconst 1, 1) := dB_36_0_17.1.2.1.1
theorem dX0_findWay_93 : decode cX0_findWay 93 = .ok (.ireturn, 1) := dB_36_0_17.1.2.1.2
theorem dX0_findWay_94 : decode cX0_findWay 94 = .ok (.iload_n 3, 1) := dB_36_0_17.1.2.2.1
theorem dX0_findWay_95 : decode cX0_findWay 95 = .ok (.iconst 1, 1) := dB_36_0_17.1.2.2.2
theorem dX0_findWay_96 : decode cX0_findWay 96 = .ok (.iload 7, 2) := dB_36_0_17.2.1.1.1
theorem dX0_findWay_98 : decode cX0_findWay 98 = .ok (.ishl, 1) := dB_36_0_17.2.1.1.2
theorem dX0_findWay_99 : decode cX0_findWay 99 = .ok (.ior, 1) := dB_36_0_17.2.1.2.1
theorem dX0_findWay_100 : decode cX0_findWay 100 = .ok (.istore_n 3, 1) := dB_36_0_17.2.1.2.2
theorem dX0_findWay_101 : decode cX0_findWay 101 = .ok (.aload_n 0, 1) := dB_36_0_17.2.2.1.1
theorem dX0_findWay_102 : decode cX0_findWay 102 = .ok (.getfield 29, 3) := dB_36_0_17.2.2.1.2
theorem dX0_findWay_105 : decode cX0_findWay 105 = .ok (.iload 4, 2) := dB_36_0_17.2.2.2.1
theorem dX0_findWay_107 : decode cX0_findWay 107 = .ok (.iload 7, 2) := dB_36_0_17.2.2.2.2
theorem dB_36_0_18 : ((((decode cX0_findWay 109 = .ok (.iastore, 1)) ∧ (decode cX0_findWay 110 = .ok (.iinc 4 1, 3))) ∧ ((decode cX0_findWay 113 = .ok (.iinc 7 1, 3)) ∧ (decode cX0_findWay 116 = .ok (.goto (-73), 3)))) ∧ (((decode cX0_findWay 119 = .ok (.iinc 5 1, 3)) ∧ (decode cX0_findWay 122 = .ok (.goto (-105), 3))) ∧ ((decode cX0_findWay 125 = .ok (.iconst 0, 1)) ∧ (decode cX0_findWay 126 = .ok (.ireturn, 1))))) ∧ ((((decode cX0_sendAlongWay 0 = .ok (.ldc 100, 2)) ∧ (decode cX0_sendAlongWay 2 = .ok (.istore_n 3, 1))) ∧ ((decode cX0_sendAlongWay 3 = .ok (.iload_n 2, 1)) ∧ (decode cX0_sendAlongWay 4 = .ok (.istore 4, 2)))) ∧ (((decode cX0_sendAlongWay 6 = .ok (.iconst 0, 1)) ∧ (decode cX0_sendAlongWay 7 = .ok (.istore 5, 2))) ∧ ((decode cX0_sendAlongWay 9 = .ok (.iload 5, 2)) ∧ (decode cX0_sendAlongWay 11 = .ok (.bipush 12, 2))))) := by first | decide +kernel | ((repeat' apply And.intro) <;> decide +kernel)
theorem dX0_findWay_109 : decode cX0_findWay 109 = .ok (.iastore, 1) := dB_36_0_18.1.1.1.1
theorem dX0_findWay_110 : decode cX0_findWay 110 = .ok (.iinc 4 1, 3) := dB_36_0_18.1.1.1.2
theorem dX0_findWay_113 : decode cX0_findWay 113 = .ok (.iinc 7 1, 3) := dB_36_0_18.1.1.2.1
theorem dX0_findWay_116 : decode cX0_findWay 116 = .ok (.goto (-73), 3) := dB_36_0_18.1.1.2.2
theorem dX0_findWay_119 : decode cX0_findWay 119 = .ok (.iinc 5 1, 3) := dB_36_0_18.1.2.1.1
theorem dX0_findWay_122 : decode cX0_findWay 122 = .ok (.goto (-105), 3) := dB_36_0_18.1.2.1.2
theorem dX0_findWay_125 : decode cX0_findWay 125 = .ok (.iconst 0, 1) := dB_36_0_18.1.2.2.1
theorem dX0_findWay_126 : decode cX0_findWay 126 = .ok (.ireturn, 1) := dB_36_0_18.1.2.2.2
theorem dX0_sendAlongWay_0 : decode cX0_sendAlongWay 0 = .ok (.ldc 100, 2) := dB_36_0_18.2.1.1.1
theorem dX0_sendAlongWay_2 : decode cX0_sendAlongWay 2 = .ok (.istore_n 3, 1) := dB_36_0_18.2.1.1.2
theorem dX0_sendAlongWay_3 : decode cX0_sendAlongWay 3 = .ok (.iload_n 2, 1) := dB_36_0_18.2.1.2.1
theorem dX0_sendAlongWay_4 : decode cX0_sendAlongWay 4 = .ok (.istore 4, 2) := dB_36_0_18.2.1.2.2
theorem dX0_sendAlongWay_6 : decode cX0_sendAlongWay 6 = .ok (.iconst 0, 1) := dB_36_0_18.2.2.1.1
theorem dX0_sendAlongWay_7 : decode cX0_sendAlongWay 7 = .ok (.istore 5, 2) := dB_36_0_18.2.2.1.2
theorem dX0_sendAlongWay_9 : decode cX0_sendAlongWay 9 = .ok (.iload 5, 2) := dB_36_0_18.2.2.2.1
theorem dX0_sendAlongWay_11 : decode cX0_sendAlongWay 11 = .ok (.bipush 12, 2) := dB_36_0_18.2.2.2.2
theorem dB_36_0_19 : ((((decode cX0_sendAlongWay 13 = .ok (.if_icmp .ge 44, 3)) ∧ (decode cX0_sendAlongWay 16 = .ok (.iload 4, 2))) ∧ ((decode cX0_sendAlongWay 18 = .ok (.iload_n 1, 1)) ∧ (decode cX0_sendAlongWay 19 = .ok (.if_icmp .eq 38, 3)))) ∧ (((decode cX0_sendAlongWay 22 = .ok (.iload_n 3, 1)) ∧ (decode cX0_sendAlongWay 23 = .ok (.aload_n 0, 1))) ∧ ((decode cX0_sendAlongWay 24 = .ok (.getfield 16, 3)) ∧ (decode cX0_sendAlongWay 27 = .ok (.aload_n 0, 1))))) ∧ ((((decode cX0_sendAlongWay 28 = .ok (.getfield 32, 3)) ∧ (decode cX0_sendAlongWay 31 = .ok (.iload 4, 2))) ∧ ((decode cX0_sendAlongWay 33 = .ok (.iaload, 1)) ∧ (decode cX0_sendAlongWay 34 = .ok (.aaload, 1)))) ∧ (((decode cX0_sendAlongWay 35 = .ok (.iload 4, 2)) ∧ (decode cX0_sendAlongWay 37 = .ok (.iaload, 1))) ∧ ((decode cX0_sendAlongWay 38 = .ok (.invokestatic 101, 3)) ∧ (decode cX0_sendAlongWay 41 = .ok (.istore_n 3, 1))))) := by first | decide +kernel | ((repeat' apply And.intro) <;> decide +kernel)
theorem dX0_sendAlongWay_13 : decode cX0_sendAlongWay 13 = .ok (.if_icmp .ge 44, 3) := dB_36_0_19.1.1.1.1
theorem dX0_sendAlongWay_16 : decode cX0_sendAlongWay 16 = .ok (.iload 4, 2) := dB_36_0_19.1.1.1.2
theorem dX0_sendAlongWay_18 : decode cX0_sendAlongWay 18 = .ok (.iload_n 1, 1) := dB_36_0_19.1.1.2.1
theorem dX0_sendAlongWay_19 : decode cX0_sendAlongWay 19 = .ok (.if_icmp .eq 38, 3) := dB_36_0_19.1.1.2.2
theorem dX0_sendAlongWay_22 : decode cX0_sendAlongWay 22 = .ok (.iload_n 3, 1) := dB_36_0_19.1.2.1.1
theorem dX0_sendAlongWay_23 : decode cX0_sendAlongWay 23 = .ok (.aload_n 0, 1) := dB_36_0_19.1.2.1.2
theorem dX0_sendAlongWay_24 : decode cX0_sendAlongWay 24 = .ok (.getfield 16, 3) := dB_36_0_19.1.2.2.1
theorem dX0_sendAlongWay_27 : decode cX0_sendAlongWay 27 = .ok (.aload_n 0, 1) := dB_36_0_19.1.2.2.2
theorem dX0_sendAlongWay_28 : decode cX0_sendAlongWay 28 = .ok (.getfield 32, 3) := dB_36_0_19.2.1.1.1
theorem dX0_sendAlongWay_31 : decode cX0_sendAlongWay 31 = .ok (.iload 4, 2) := dB_36_0_19.2.1.1.2
theorem dX0_sendAlongWay_33 : decode cX0_sendAlongWay 33 = .ok (.iaload, 1) := dB_36_0_19.2.1.2.1
theorem dX0_sendAlongWay_34 : decode cX0_sendAlongWay 34 = .ok (.aaload, 1) := dB_36_0_19.2.1.2.2
theorem dX0_sendAlongWay_35 : decode cX0_sendAlongWay 35 = .ok (.iload 4, 2) := dB_36_0_19.2.2.1.1
theorem dX0_sendAlongWay_37 : decode cX0_sendAlongWay 37 = .ok (.iaload, 1) := dB_36_0_19.2.2.1.2
theorem dX0_sendAlongWay_38 : decode cX0_sendAlongWay 38 = .ok (.invokestatic 101, 3) := dB_36_0_19.2.2.2.1
theorem dX0_sendAlongWay_41 : decode cX0_sendAlongWay 41 = .ok (.istore_n 3, 1) := dB_36_0_19.2.2.2.2
theorem dB_36_0_20 : ((((decode cX0_sendAlongWay 42 = .ok (.aload_n 0, 1)) ∧ (decode cX0_sendAlongWay 43 = .ok (.getfield 32, 3))) ∧ ((decode cX0_sendAlongWay 46 = .ok (.iload 4, 2)) ∧ (decode cX0_sendAlongWay 48 = .ok (.iaload, 1)))) ∧ (((decode cX0_sendAlongWay 49 = .ok (.istore 4, 2)) ∧ (decode cX0_sendAlongWay 51 = .ok (.iinc 5 1, 3))) ∧ ((decode cX0_sendAlongWay 54 = .ok (.goto (-45), 3)) ∧ (decode cX0_sendAlongWay 57 = .ok (.iload_n 2, 1))))) ∧ ((((decode cX0_sendAlongWay 58 = .ok (.istore 4, 2)) ∧ (decode cX0_sendAlongWay 60 = .ok (.iconst 0, 1))) ∧ ((decode cX0_sendAlongWay 61 = .ok (.istore 5, 2)) ∧ (decode cX0_sendAlongWay 63 = .ok (.iload 5, 2)))) ∧ (((decode cX0_sendAlongWay 65 = .ok (.bipush 12, 2)) ∧ (decode cX0_sendAlongWay 67 = .ok (.if_icmp .ge 38, 3))) ∧ ((decode cX0_sendAlongWay 70 = .ok (.iload 4, 2)) ∧ (decode cX0_sendAlongWay 72 = .ok (.iload_n 1, 1))))) := by first | decide +kernel | ((repeat' apply And.intro) <;> decide +kernel)
theorem dX0_sendAlongWay_42 : decode cX0_sendAlongWay 42 = .ok (.aload_n 0, 1) := dB_36_0_20.1.1.1.1
theorem dX0_sendAlongWay_43 : decode cX0_sendAlongWay 43 = .ok (.getfield 32, 3) := dB_36_0_20.1.1.1.2
theorem dX0_sendAlongWay_46 : decode cX0_sendAlongWay 46 = .ok (.iload 4, 2) := dB_36_0_20.1.1.2.1
theorem dX0_sendAlongWay_48 : decode cX0_sendAlongWay 48 = .ok (.iaload, 1) := dB_36_0_20.1.1.2.2
theorem dX0_sendAlongWay_49 : decode cX0_sendAlongWay 49 = .ok (.istore 4, 2) := dB_36_0_20.1.2.1.1
theorem dX0_sendAlongWay_51 : decode cX0_sendAlongWay 51 = .ok (.iinc 5 1, 3) := dB_36_0_20.1.2.1.2
theorem dX0_sendAlongWay_54 : decode cX0_sendAlongWay 54 = .ok (.goto (-45), 3) := dB_36_0_20.1.2.2.1
theorem dX0_sendAlongWay_57 : decode cX0_sendAlongWay 57 = .ok (.iload_n 2, 1) := dB_36_0_20.1.2.2.2
theorem dX0_sendAlongWay_58 : decode cX0_sendAlongWay 58 = .ok (.istore 4, 2) := dB_36_0_20.2.1.1.1
theorem dX0_sendAlongWay_60 : decode cX0_sendAlongWay 60 = .ok (.iconst 0, 1) := dB_36_0_20.2.1.1.2
theorem dX0_sendAlongWay_61 : decode cX0_sendAlongWay 61 = .ok (.istore 5, 2) := dB_36_0_20.2.1.2.1
theorem dX0_sendAlongWay_63 : decode cX0_sendAlongWay 63 = .ok (.iload 5, 2) := dB_36_0_20.2.1.2.2
theorem dX0_sendAlongWay_65 : decode cX0_sendAlongWay 65 = .ok (.bipush 12, 2) := dB_36_0_20.2.2.1.1
theorem dX0_sendAlongWay_67 : decode cX0_sendAlongWay 67 = .ok (.if_icmp .ge 38, 3) := dB_36_0_20.2.2.1.2
theorem dX0_sendAlongWay_70 : decode cX0_sendAlongWay 70 = .ok (.iload 4, 2) := dB_36_0_20.2.2.2.1
theorem dX0_sendAlongWay_72 : decode cX0_sendAlongWay 72 = .ok (.iload_n 1, 1) := dB_36_0_20.2.2.2.2
theorem dB_36_0_21 : ((((decode cX0_sendAlongWay 73 = .ok (.if_icmp .eq 32, 3)) ∧ (decode cX0_sendAlongWay 76 = .ok (.aload_n 0, 1))) ∧ ((decode cX0_sendAlongWay 77 = .ok (.aload_n 0, 1)) ∧ (decode cX0_sendAlongWay 78 = .ok (.getfield 32, 3)))) ∧ (((decode cX0_sendAlongWay 81 = .ok (.iload 4, 2)) ∧ (decode cX0_sendAlongWay 83 = .ok (.iaload, 1))) ∧ ((decode cX0_sendAlongWay 84 = .ok (.iload 4, 2)) ∧ (decode cX0_sendAlongWay 86 = .ok (.iload_n 3, 1))))) ∧ ((((decode cX0_sendAlongWay 87 = .ok (.invokevirtual 106, 3)) ∧ (decode cX0_sendAlongWay 90 = .ok (.aload_n 0, 1))) ∧ ((decode cX0_sendAlongWay 91 = .ok (.getfield 32, 3)) ∧ (decode cX0_sendAlongWay 94 = .ok (.iload 4, 2)))) ∧ (((decode cX0_sendAlongWay 96 = .ok (.iaload, 1)) ∧ (decode cX0_sendAlongWay 97 = .ok (.istore 4, 2))) ∧ ((decode cX0_sendAlongWay 99 = .ok (.iinc 5 1, 3)) ∧ (decode cX0_sendAlongWay 102 = .ok (.goto (-39), 3))))) := by first | decide +kernel | ((repeat' apply And.intro) <;> decide +kernel)
theorem dX0_sendAlongWay_73 : decode cX0_sendAlongWay 73 = .ok (.if_icmp .eq 32, 3) := dB_36_0_21.1.1.1.1
theorem dX0_sendAlongWay_76 : decode cX0_sendAlongWay 76 = .ok (.aload_n 0, 1) := dB_36_0_21.1.1.1.2
theorem dX0_sendAlongWay_77 : decode cX0_sendAlongWay 77 = .ok (.aload_n 0, 1) := dB_36_0_21.1.1.2.1
theorem dX0_sendAlongWay_78 : decode cX0_sendAlongWay 78 = .ok (.getfield 32, 3) := dB_36_0_21.1.1.2.2
theorem dX0_sendAlongWay_81 : decode cX0_sendAlongWay 81 = .ok (.iload 4, 2) := dB_36_0_21.1.2.1.1
theorem dX0_sendAlongWay_83 : decode cX0_sendAlongWay 83 = .ok (.iaload, 1) := dB_36_0_21.1.2.1.2
theorem dX0_sendAlongWay_84 : decode cX0_sendAlongWay 84 = .ok (.iload 4, 2) := dB_36_0_21.1.2.2.1
theorem dX0_sendAlongWay_86 : decode cX0_sendAlongWay 86 = .ok (.iload_n 3, 1) := dB_36_0_21.1.2.2.2
theorem dX0_sendAlongWay_87 : decode cX0_sendAlongWay 87 = .ok (.invokevirtual 106, 3) := dB_36_0_21.2.1.1.1
theorem dX0_sendAlongWay_90 : decode cX0_sendAlongWay 90 = .ok (.aload_n 0, 1) := dB_36_0_21.2.1.1.2
theorem dX0_sendAlongWay_91 : decode cX0_sendAlongWay 91 = .ok (.getfield 32, 3) := dB_36_0_21.2.1.2.1
theorem dX0_sendAlongWay_94 : decode cX0_sendAlongWay 94 = .ok (.iload 4, 2) := dB_36_0_21.2.1.2.2
theorem dX0_sendAlongWay_96 : decode cX0_sendAlongWay 96 = .ok (.iaload, 1) := dB_36_0_21.2.2.1.1
theorem dX0_sendAlongWay_97 : decode cX0_sendAlongWay 97 = .ok (.istore 4, 2) := dB_36_0_21.2.2.1.2
theorem dX0_sendAlongWay_99 : decode cX0_sendAlongWay 99 = .ok (.iinc 5 1, 3) := dB_36_0_21.2.2.2.1
theorem dX0_sendAlongWay_102 : decode cX0_sendAlongWay 102 = .ok (.goto (-39), 3) := dB_36_0_21.2.2.2.2
theorem dB_36_0_22 : ((((decode cX0_sendAlongWay 105 = .ok (.iload_n 3, 1)) ∧ (decode cX0_sendAlongWay 106 = .ok (.ireturn, 1))) ∧ ((decode cX0_sendOver 0 = .ok (.aload_n 0, 1)) ∧ (decode cX0_sendOver 1 = .ok (.getfield 16, 3)))) ∧ (((decode cX0_sendOver 4 = .ok (.iload_n 1, 1)) ∧ (decode cX0_sendOver 5 = .ok (.aaload, 1))) ∧ ((decode cX0_sendOver 6 = .ok (.iload_n 2, 1)) ∧ (decode cX0_sendOver 7 = .ok (.dup2, 1))))) ∧ ((((decode cX0_sendOver 8 = .ok (.iaload, 1)) ∧ (decode cX0_sendOver 9 = .ok (.iload_n 3, 1))) ∧ ((decode cX0_sendOver 10 = .ok (.isub, 1)) ∧ (decode cX0_sendOver 11 = .ok (.iastore, 1)))) ∧ (((decode cX0_sendOver 12 = .ok (.aload_n 0, 1)) ∧ (decode cX0_sendOver 13 = .ok (.getfield 16, 3))) ∧ ((decode cX0_sendOver 16 = .ok (.iload_n 2, 1)) ∧ (decode cX0_sendOver 17 = .ok (.aaload, 1))))) := by first | decide +kernel | ((repeat' apply And.intro) <;> decide +kernel)
theorem dX0_sendAlongWay_105 : decode cX0_sendAlongWay 105 = .ok (.iload_n 3, 1) := dB_36_0_22.1.1.1.1
theorem dX0_sendAlongWay_106 : decode cX0_sendAlongWay 106 = .ok (.ireturn, 1) := dB_36_0_22.1.1.1.2
theorem dX0_sendOver_0 : decode cX0_sendOver 0 = .ok (.aload_n 0, 1) := dB_36_0_22.1.1.2.1
theorem dX0_sendOver_1 : decode cX0_sendOver 1 = .ok (.getfield 16, 3) := dB_36_0_22.1.1.2.2
theorem dX0_sendOver_4 : decode cX0_sendOver 4 = .ok (.iload_n 1, 1) := dB_36_0_22.1.2.1.1
theorem dX0_sendOver_5 : decode cX0_sendOver 5 = .ok (.aaload, 1) := dB_36_0_22.1.2.1.2
theorem dX0_sendOver_6 : decode cX0_sendOver 6 = .ok (.iload_n 2, 1) := dB_36_0_22.1.2.2.1
theorem dX0_sendOver_7 : decode cX0_sendOver 7 = .ok (.dup2, 1) := dB_36_0_22.1.2.2.2
theorem dX0_sendOver_8 : decode cX0_sendOver 8 = .ok (.iaload, 1) := dB_36_0_22.2.1.1.1
theorem dX0_sendOver_9 : decode cX0_sendOver 9 = .ok (.iload_n 3, 1) := dB_36_0_22.2.1.1.2
theorem dX0_sendOver_10 : decode cX0_sendOver 10 = .ok (.isub, 1) := dB_36_0_22.2.1.2.1
theorem dX0_sendOver_11 : decode cX0_sendOver 11 = .ok (.iastore, 1) := dB_36_0_22.2.1.2.2
theorem dX0_sendOver_12 : decode cX0_sendOver 12 = .ok (.aload_n 0, 1) := dB_36_0_22.2.2.1.1
theorem dX0_sendOver_13 : decode cX0_sendOver 13 = .ok (.getfield 16, 3) := dB_36_0_22.2.2.1.2
theorem dX0_sendOver_16 : decode cX0_sendOver 16 = .ok (.iload_n 2, 1) := dB_36_0_22.2.2.2.1
theorem dX0_sendOver_17 : decode cX0_sendOver 17 = .ok (.aaload, 1) := dB_36_0_22.2.2.2.2
theorem dB_36_0_23 : ((((decode cX0_sendOver 18 = .ok (.iload_n 1, 1)) ∧ (decode cX0_sendOver 19 = .ok (.dup2, 1))) ∧ ((decode cX0_sendOver 20 = .ok (.iaload, 1)) ∧ (decode cX0_sendOver 21 = .ok (.iload_n 3, 1)))) ∧ (((decode cX0_sendOver 22 = .ok (.iadd, 1)) ∧ (decode cX0_sendOver 23 = .ok (.iastore, 1))) ∧ ((decode cX0_sendOver 24 = .ok (.iload_n 3, 1)) ∧ (decode cX0_sendOver 25 = .ok (.istore 4, 2))))) ∧ ((((decode cX0_sendOver 27 = .ok (.iconst 0, 1)) ∧ (decode cX0_sendOver 28 = .ok (.istore 5, 2))) ∧ ((decode cX0_sendOver 30 = .ok (.iload 5, 2)) ∧ (decode cX0_sendOver 32 = .ok (.aload_n 0, 1)))) ∧ (((decode cX0_sendOver 33 = .ok (.getfield 35, 3)) ∧ (decode cX0_sendOver 36 = .ok (.getfield 55, 3))) ∧ ((decode cX0_sendOver 39 = .ok (.if_icmp .ge 155, 3)) ∧ (decode cX0_sendOver 42 = .ok (.iload 4, 2))))) := by first | decide +kernel | ((repeat' apply And.intro) <;> decide +kernel)
theorem dX0_sendOver_18 : decode cX0_sendOver 18 = .ok (.iload_n 1, 1) := dB_36_0_23.1.1.1.1
theorem dX0_sendOver_19 : decode cX0_sendOver 19 = .ok (.dup2, 1) := dB_36_0_23.1.1.1.2
theorem dX0_sendOver_20 : decode cX0_sendOver 20 = .ok (.iaload, 1) := dB_36_0_23.1.1.2.1
theorem dX0_sendOver_21 : decode cX0_sendOver 21 = .ok (.iload_n 3, 1) := dB_36_0_23.1.1.2.2
theorem dX0_sendOver_22 : decode cX0_sendOver 22 = .ok (.iadd, 1) := dB_36_0_23.1.2.1.1
theorem dX0_sendOver_23 : decode cX0_sendOver 23 = .ok (.iastore, 1) := dB_36_0_23.1.2.1.2
theorem dX0_sendOver_24 : decode cX0_sendOver 24 = .ok (.iload_n 3, 1) := dB_36_0_23.1.2.2.1
theorem dX0_sendOver_25 : decode cX0_sendOver 25 = .ok (.istore 4, 2) := dB_36_0_23.1.2.2.2
theorem dX0_sendOver_27 : decode cX0_sendOver 27 = .ok (.iconst 0, 1) := dB_36_0_23.2.1.1.1
theorem dX0_sendOver_28 : decode cX0_sendOver 28 = .ok (.istore 5, 2) := dB_36_0_23.2.1.1.2
theorem dX0_sendOver_30 : decode cX0_sendOver 30 = .ok (.iload 5, 2) := dB_36_0_23.2.1.2.1
theorem dX0_sendOver_32 : decode cX0_sendOver 32 = .ok (.aload_n 0, 1) := dB_36_0_23.2.1.2.2
theorem dX0_sendOver_33 : decode cX0_sendOver 33 = .ok (.getfield 35, 3) := dB_36_0_23.2.2.1.1
theorem dX0_sendOver_36 : decode cX0_sendOver 36 = .ok (.getfield 55, 3) := dB_36_0_23.2.2.1.2
theorem dX0_sendOver_39 : decode cX0_sendOver 39 = .ok (.if_icmp .ge 155, 3) := dB_36_0_23.2.2.2.1
theorem dX0_sendOver_42 : decode cX0_sendOver 42 = .ok (.iload 4, 2) := dB_36_0_23.2.2.2.2
theorem dB_36_0_24 : ((((decode cX0_sendOver 44 = .ok (.ifCond .le 150, 3)) ∧ (decode cX0_sendOver 47 = .ok (.aload_n 0, 1))) ∧ ((decode cX0_sendOver 48 = .ok (.getfield 35, 3)) ∧ (decode cX0_sendOver 51 = .ok (.getfield 76, 3)))) ∧ (((decode cX0_sendOver 54 = .ok (.iload 5, 2)) ∧ (decode cX0_sendOver 56 = .ok (.iaload, 1))) ∧ ((decode cX0_sendOver 57 = .ok (.iload_n 1, 1)) ∧ (decode cX0_sendOver 58 = .ok (.if_icmp .ne 61, 3))))) ∧ ((((decode cX0_sendOver 61 = .ok (.aload_n 0, 1)) ∧ (decode cX0_sendOver 62 = .ok (.getfield 35, 3))) ∧ ((decode cX0_sendOver 65 = .ok (.getfield 79, 3)) ∧ (decode cX0_sendOver 68 = .ok (.iload 5, 2)))) ∧ (((decode cX0_sendOver 70 = .ok (.iaload, 1)) ∧ (decode cX0_sendOver 71 = .ok (.iload_n 2, 1))) ∧ ((decode cX0_sendOver 72 = .ok (.if_icmp .ne 47, 3)) ∧ (decode cX0_sendOver 75 = .ok (.iload 4, 2))))) := by first | decide +kernel | ((repeat' apply And.intro) <;> decide +kernel)
theorem dX0_sendOver_44 : decode cX0_sendOver 44 = .ok (.ifCond .le 150, 3) := dB_36_0_24.1.1.1.1
theorem dX0_sendOver_47 : decode cX0_sendOver 47 = .ok (.aload_n 0, 1) := dB_36_0_24.1.1.1.2
theorem dX0_sendOver_48 : decode cX0_sendOver 48 = .ok (.getfield 35, 3) := dB_36_0_24.1.1.2.1
theorem dX0_sendOver_51 : decode cX0_sendOver 51 = .ok (.getfield 76, 3) := dB_36_0_24.1.1.2.2
theorem dX0_sendOver_54 : decode cX0_sendOver 54 = .ok (.iload 5, 2) := dB_36_0_24.1.2.1.1
theorem dX0_sendOver_56 : decode cX0_sendOver 56 = .ok (.iaload, 1) := dB_36_0_24.1.2.1.2
theorem dX0_sendOver_57 : decode cX0_sendOver 57 = .ok (.iload_n 1, 1) := dB_36_0_24.1.2.2.1
theorem dX0_sendOver_58 : decode cX0_sendOver 58 = .ok (.if_icmp .ne 61, 3) := dB_36_0_24.1.2.2.2
theorem dX0_sendOver_61 : decode cX0_sendOver 61 = .ok (.aload_n 0, 1) := dB_36_0_24.2.1.1.1
theorem dX0_sendOver_62 : decode cX0_sendOver 62 = .ok (.getfield 35, 3) := dB_36_0_24.2.1.1.2
theorem dX0_sendOver_65 : decode cX0_sendOver 65 = .ok (.getfield 79, 3) := dB_36_0_24.2.1.2.1
theorem dX0_sendOver_68 : decode cX0_sendOver 68 = .ok (.iload 5, 2) := dB_36_0_24.2.1.2.2
theorem dX0_sendOver_70 : decode cX0_sendOver 70 = .ok (.iaload, 1) := dB_36_0_24.2.2.1.1
theorem dX0_sendOver_71 : decode cX0_sendOver 71 = .ok (.iload_n 2, 1) := dB_36_0_24.2.2.1.2
theorem dX0_sendOver_72 : decode cX0_sendOver 72 = .ok (.if_icmp .ne 47, 3) := dB_36_0_24.2.2.2.1
theorem dX0_sendOver_75 : decode cX0_sendOver 75 = .ok (.iload 4, 2) := dB_36_0_24.2.2.2.2
theorem dB_36_0_25 : ((((decode cX0_sendOver 77 = .ok (.aload_n 0, 1)) ∧ (decode cX0_sendOver 78 = .ok (.getfield 23, 3))) ∧ ((decode cX0_sendOver 81 = .ok (.iload 5, 2)) ∧ (decode cX0_sendOver 83 = .ok (.iaload, 1)))) ∧ (((decode cX0_sendOver 84 = .ok (.aload_n 0, 1)) ∧ (decode cX0_sendOver 85 = .ok (.getfield 19, 3))) ∧ ((decode cX0_sendOver 88 = .ok (.iload 5, 2)) ∧ (decode cX0_sendOver 90 = .ok (.iaload, 1))))) ∧ ((((decode cX0_sendOver 91 = .ok (.isub, 1)) ∧ (decode cX0_sendOver 92 = .ok (.invokestatic 101, 3))) ∧ ((decode cX0_sendOver 95 = .ok (.istore 6, 2)) ∧ (decode cX0_sendOver 97 = .ok (.aload_n 0, 1)))) ∧ (((decode cX0_sendOver 98 = .ok (.getfield 19, 3)) ∧ (decode cX0_sendOver 101 = .ok (.iload 5, 2))) ∧ ((decode cX0_sendOver 103 = .ok (.dup2, 1)) ∧ (decode cX0_sendOver 104 = .ok (.iaload, 1))))) := by first | decide +kernel | ((repeat' apply And.intro) <;> decide +kernel)
theorem dX0_sendOver_77 : decode cX0_sendOver 77 = .ok (.aload_n 0, 1) := dB_36_0_25.1.1.1.1
theorem dX0_sendOver_78 : decode cX0_sendOver 78 = .ok (.getfield 23, 3) := dB_36_0_25.1.1.1.2
theorem dX0_sendOver_81 : decode cX0_sendOver 81 = .ok (.iload 5, 2) := dB_36_0_25.1.1.2.1
theorem dX0_sendOver_83 : decode cX0_sendOver 83 = .ok (.iaload, 1) := dB_36_0_25.1.1.2.2
theorem dX0_sendOver_84 : decode cX0_sendOver 84 = .ok (.aload_n 0, 1) := dB_36_0_25.1.2.1.1
theorem dX0_sendOver_85 : decode cX0_sendOver 85 = .ok (.getfield 19, 3) := dB_36_0_25.1.2.1.2
theorem dX0_sendOver_88 : decode cX0_sendOver 88 = .ok (.iload 5, 2) := dB_36_0_25.1.2.2.1
theorem dX0_sendOver_90 : decode cX0_sendOver 90 = .ok (.iaload, 1) := dB_36_0_25.1.2.2.2
theorem dX0_sendOver_91 : decode cX0_sendOver 91 = .ok (.isub, 1) := dB_36_0_25.2.1.1.1
theorem dX0_sendOver_92 : decode cX0_sendOver 92 = .ok (.invokestatic 101, 3) := dB_36_0_25.2.1.1.2
theorem dX0_sendOver_95 : decode cX0_sendOver 95 = .ok (.istore 6, 2) := dB_36_0_25.2.1.2.1
theorem dX0_sendOver_97 : decode cX0_sendOver 97 = .ok (.aload_n 0, 1) := dB_36_0_25.2.1.2.2
theorem dX0_sendOver_98 : decode cX0_sendOver 98 = .ok (.getfield 19, 3) := dB_36_0_25.2.2.1.1
theorem dX0_sendOver_101 : decode cX0_sendOver 101 = .ok (.iload 5, 2) := dB_36_0_25.2.2.1.2
theorem dX0_sendOver_103 : decode cX0_sendOver 103 = .ok (.dup2, 1) := dB_36_0_25.2.2.2.1
theorem dX0_sendOver_104 : decode cX0_sendOver 104 = .ok (.iaload, 1) := dB_36_0_25.2.2.2.2
theorem dB_36_0_26 : ((((decode cX0_sendOver 105 = .ok (.iload 6, 2)) ∧ (decode cX0_sendOver 107 = .ok (.iadd, 1))) ∧ ((decode cX0_sendOver 108 = .ok (.iastore, 1)) ∧ (decode cX0_sendOver 109 = .ok (.iload 4, 2)))) ∧ (((decode cX0_sendOver 111 = .ok (.iload 6, 2)) ∧ (decode cX0_sendOver 113 = .ok (.isub, 1))) ∧ ((decode cX0_sendOver 114 = .ok (.istore 4, 2)) ∧ (decode cX0_sendOver 116 = .ok (.goto 72, 3))))) ∧ ((((decode cX0_sendOver 119 = .ok (.aload_n 0, 1)) ∧ (decode cX0_sendOver 120 = .ok (.getfield 35, 3))) ∧ ((decode cX0_sendOver 123 = .ok (.getfield 76, 3)) ∧ (decode cX0_sendOver 126 = .ok (.iload 5, 2)))) ∧ (((decode cX0_sendOver 128 = .ok (.iaload, 1)) ∧ (decode cX0_sendOver 129 = .ok (.iload_n 2, 1))) ∧ ((decode cX0_sendOver 130 = .ok (.if_icmp .ne 58, 3)) ∧ (decode cX0_sendOver 133 = .ok (.aload_n 0, 1))))) := by first | decide +kernel | ((repeat' apply And.intro) <;> decide +kernel)
theorem dX0_sendOver_105 : decode cX0_sendOver 105 = .ok (.iload 6, 2) := dB_36_0_26.1.1.1.1
theorem dX0_sendOver_107 : decode cX0_sendOver 107 = .ok (.iadd, 1) := dB_36_0_26.1.1.1.2
theorem dX0_sendOver_108 : decode cX0_sendOver 108 = .ok (.iastore, 1) := dB_36_0_26.1.1.2.1
theorem dX0_sendOver_109 : decode cX0_sendOver 109 = .ok (.iload 4, 2) := dB_36_0_26.1.1.2.2
theorem dX0_sendOver_111 : decode cX0_sendOver 111 = .ok (.iload 6, 2) := dB_36_0_26.1.2.1.1
theorem dX0_sendOver_113 : decode cX0_sendOver 113 = .ok (.isub, 1) := dB_36_0_26.1.2.1.2
theorem dX0_sendOver_114 : decode cX0_sendOver 114 = .ok (.istore 4, 2) := dB_36_0_26.1.2.2.1
theorem dX0_sendOver_116 : decode cX0_sendOver 116 = .ok (.goto 72, 3) := dB_36_0_26.1.2.2.2
theorem dX0_sendOver_119 : decode cX0_sendOver 119 = .ok (.aload_n 0, 1) := dB_36_0_26.2.1.1.1
theorem dX0_sendOver_120 : decode cX0_sendOver 120 = .ok (.getfield 35, 3) := dB_36_0_26.2.1.1.2
theorem dX0_sendOver_123 : decode cX0_sendOver 123 = .ok (.getfield 76, 3) := dB_36_0_26.2.1.2.1
theorem dX0_sendOver_126 : decode cX0_sendOver 126 = .ok (.iload 5, 2) := dB_36_0_26.2.1.2.2
theorem dX0_sendOver_128 : decode cX0_sendOver 128 = .ok (.iaload, 1) := dB_36_0_26.2.2.1.1
theorem dX0_sendOver_129 : decode cX0_sendOver 129 = .ok (.iload_n 2, 1) := dB_36_0_26.2.2.1.2
theorem dX0_sendOver_130 : decode cX0_sendOver 130 = .ok (.if_icmp .ne 58, 3) := dB_36_0_26.2.2.2.1
theorem dX0_sendOver_133 : decode cX0_sendOver 133 = .ok (.aload_n 0, 1) := dB_36_0_26.2.2.2.2
theorem dB_36_0_27 : ((((decode cX0_sendOver 134 = .ok (.getfield 35, 3)) ∧ (decode cX0_sendOver 137 = .ok (.getfield 79, 3))) ∧ ((decode cX0_sendOver 140 = .ok (.iload 5, 2)) ∧ (decode cX0_sendOver 142 = .ok (.iaload, 1)))) ∧ (((decode cX0_sendOver 143 = .ok (.iload_n 1, 1)) ∧ (decode cX0_sendOver 144 = .ok (.if_icmp .ne 44, 3))) ∧ ((decode cX0_sendOver 147 = .ok (.iload 4, 2)) ∧ (decode cX0_sendOver 149 = .ok (.aload_n 0, 1))))) ∧ ((((decode cX0_sendOver 150 = .ok (.getfield 26, 3)) ∧ (decode cX0_sendOver 153 = .ok (.iload 5, 2))) ∧ ((decode cX0_sendOver 155 = .ok (.iaload, 1)) ∧ (decode cX0_sendOver 156 = .ok (.aload_n 0, 1)))) ∧ (((decode cX0_sendOver 157 = .ok (.getfield 19, 3)) ∧ (decode cX0_sendOver 160 = .ok (.iload 5, 2))) ∧ ((decode cX0_sendOver 162 = .ok (.iaload, 1)) ∧ (decode cX0_sendOver 163 = .ok (.iadd, 1))))) := by first | decide +kernel | ((repeat' apply And.intro) <;> decide +kernel)
theorem dX0_sendOver_134 : decode cX0_sendOver 134 = .ok (.getfield 35, 3) := dB_36_0_27.1.1.1.1
theorem dX0_sendOver_137 : decode cX0_sendOver 137 = .ok (.getfield 79, 3) := dB_36_0_27.1.1.1.2
theorem dX0_sendOver_140 : decode cX0_sendOver 140 = .ok (.iload 5, 2) := dB_36_0_27.1.1.2.1
theorem dX0_sendOver_142 : decode cX0_sendOver 142 = .ok (.iaload, 1) := dB_36_0_27.1.1.2.2
theorem dX0_sendOver_143 : decode cX0_sendOver 143 = .ok (.iload_n 1, 1) := dB_36_0_27.1.2.1.1
theorem dX0_sendOver_144 : decode cX0_sendOver 144 = .ok (.if_icmp .ne 44, 3) := dB_36_0_27.1.2.1.2
theorem dX0_sendOver_147 : decode cX0_sendOver 147 = .ok (.iload 4, 2) := dB_36_0_27.1.2.2.1
theorem dX0_sendOver_149 : decode cX0_sendOver 149 = .ok (.aload_n 0, 1) := dB_36_0_27.1.2.2.2
theorem dX0_sendOver_150 : decode cX0_sendOver 150 = .ok (.getfield 26, 3) := dB_36_0_27.2.1.1.1
theorem dX0_sendOver_153 : decode cX0_sendOver 153 = .ok (.iload 5, 2) := dB_36_0_27.2.1.1.2
theorem dX0_sendOver_155 : decode cX0_sendOver 155 = .ok (.iaload, 1) := dB_36_0_27.2.1.2.1
theorem dX0_sendOver_156 : decode cX0_sendOver 156 = .ok (.aload_n 0, 1) := dB_36_0_27.2.1.2.2
theorem dX0_sendOver_157 : decode cX0_sendOver 157 = .ok (.getfield 19, 3) := dB_36_0_27.2.2.1.1
theorem dX0_sendOver_160 : decode cX0_sendOver 160 = .ok (.iload 5, 2) := dB_36_0_27.2.2.1.2
theorem dX0_sendOver_162 : decode cX0_sendOver 162 = .ok (.iaload, 1) := dB_36_0_27.2.2.2.1
theorem dX0_sendOver_163 : decode cX0_sendOver 163 = .ok (.iadd, 1) := dB_36_0_27.2.2.2.2
theorem dB_36_0_28 : ((((decode cX0_sendOver 164 = .ok (.invokestatic 101, 3)) ∧ (decode cX0_sendOver 167 = .ok (.istore 6, 2))) ∧ ((decode cX0_sendOver 169 = .ok (.aload_n 0, 1)) ∧ (decode cX0_sendOver 170 = .ok (.getfield 19, 3)))) ∧ (((decode cX0_sendOver 173 = .ok (.iload 5, 2)) ∧ (decode cX0_sendOver 175 = .ok (.dup2, 1))) ∧ ((decode cX0_sendOver 176 = .ok (.iaload, 1)) ∧ (decode cX0_sendOver 177 = .ok (.iload 6, 2))))) ∧ ((((decode cX0_sendOver 179 = .ok (.isub, 1)) ∧ (decode cX0_sendOver 180 = .ok (.iastore, 1))) ∧ ((decode cX0_sendOver 181 = .ok (.iload 4, 2)) ∧ (decode cX0_sendOver 183 = .ok (.iload 6, 2)))) ∧ (((decode cX0_sendOver 185 = .ok (.isub, 1)) ∧ (decode cX0_sendOver 186 = .ok (.istore 4, 2))) ∧ ((decode cX0_sendOver 188 = .ok (.iinc 5 1, 3)) ∧ (decode cX0_sendOver 191 = .ok (.goto (-161), 3))))) := by first | decide +kernel | ((repeat' apply And.intro) <;> decide +kernel)
theorem dX0_sendOver_164 : decode cX0_sendOver 164 = .ok (.invokestatic 101, 3) := dB_36_0_28.1.1.1.1
theorem dX0_sendOver_167 : decode cX0_sendOver 167 = .ok (.istore 6, 2) := dB_36_0_28.1.1.1.2
theorem dX0_sendOver_169 : decode cX0_sendOver 169 = .ok (.aload_n 0, 1) := dB_36_0_28.1.1.2.1
theorem dX0_sendOver_170 : decode cX0_sendOver 170 = .ok (.getfield 19, 3) := dB_36_0_28.1.1.2.2
theorem dX0_sendOver_173 : decode cX0_sendOver 173 = .ok (.iload 5, 2) := dB_36_0_28.1.2.1.1
theorem dX0_sendOver_175 : decode cX0_sendOver 175 = .ok (.dup2, 1) := dB_36_0_28.1.2.1.2
theorem dX0_sendOver_176 : decode cX0_sendOver 176 = .ok (.iaload, 1) := dB_36_0_28.1.2.2.1
theorem dX0_sendOver_177 : decode cX0_sendOver 177 = .ok (.iload 6, 2) := dB_36_0_28.1.2.2.2
theorem dX0_sendOver_179 : decode cX0_sendOver 179 = .ok (.isub, 1) := dB_36_0_28.2.1.1.1
theorem dX0_sendOver_180 : decode cX0_sendOver 180 = .ok (.iastore, 1) := dB_36_0_28.2.1.1.2
theorem dX0_sendOver_181 : decode cX0_sendOver 181 = .ok (.iload 4, 2) := dB_36_0_28.2.1.2.1
theorem dX0_sendOver_183 : decode cX0_sendOver 183 = .ok (.iload 6, 2) := dB_36_0_28.2.1.2.2
theorem dX0_sendOver_185 : decode cX0_sendOver 185 = .ok (.isub, 1) := dB_36_0_28.2.2.1.1
theorem dX0_sendOver_186 : decode cX0_sendOver 186 = .ok (.istore 4, 2) := dB_36_0_28.2.2.1.2
theorem dX0_sendOver_188 : decode cX0_sendOver 188 = .ok (.iinc 5 1, 3) := dB_36_0_28.2.2.2.1
theorem dX0_sendOver_191 : decode cX0_sendOver 191 = .ok (.goto (-161), 3) := dB_36_0_28.2.2.2.2
theorem dB_36_0_29 : ((((decode cX0_sendOver 194 = .ok (.return_, 1)) ∧ (decode cX0_nearCut 0 = .ok (.aload_n 0, 1))) ∧ ((decode cX0_nearCut 1 = .ok (.iload_n 1, 1)) ∧ (decode cX0_nearCut 2 = .ok (.iconst 1, 1)))) ∧ (((decode cX0_nearCut 3 = .ok (.invokevirtual 89, 3)) ∧ (decode cX0_nearCut 6 = .ok (.ireturn, 1))) ∧ ((decode cX0_farCut 0 = .ok (.iconst 1, 1)) ∧ (decode cX0_farCut 1 = .ok (.aload_n 0, 1))))) ∧ ((((decode cX0_farCut 2 = .ok (.getfield 35, 3)) ∧ (decode cX0_farCut 5 = .ok (.getfield 43, 3))) ∧ ((decode cX0_farCut 8 = .ok (.ishl, 1)) ∧ (decode cX0_farCut 9 = .ok (.iconst 1, 1)))) ∧ (((decode cX0_farCut 10 = .ok (.isub, 1)) ∧ (decode cX0_farCut 11 = .ok (.aload_n 0, 1))) ∧ ((decode cX0_farCut 12 = .ok (.iload_n 1, 1)) ∧ (decode cX0_farCut 13 = .ok (.invokevirtual 110, 3))))) := by first | decide +kernel | ((repeat' apply And.intro) <;> decide +kernel)
theorem dX0_sendOver_194 : decode cX0_sendOver 194 = .ok (.return_, 1) := dB_36_0_29.1.1.1.1
theorem dX0_nearCut_0 : decode cX0_nearCut 0 = .ok (.aload_n 0, 1) := dB_36_0_29.1.1.1.2
theorem dX0_nearCut_1 : decode cX0_nearCut 1 = .ok (.iload_n 1, 1) := dB_36_0_29.1.1.2.1
theorem dX0_nearCut_2 : decode cX0_nearCut 2 = .ok (.iconst 1, 1) := dB_36_0_29.1.1.2.2
theorem dX0_nearCut_3 : decode cX0_nearCut 3 = .ok (.invokevirtual 89, 3) := dB_36_0_29.1.2.1.1
theorem dX0_nearCut_6 : decode cX0_nearCut 6 = .ok (.ireturn, 1) := dB_36_0_29.1.2.1.2
theorem dX0_farCut_0 : decode cX0_farCut 0 = .ok (.iconst 1, 1) := dB_36_0_29.1.2.2.1
theorem dX0_farCut_1 : decode cX0_farCut 1 = .ok (.aload_n 0, 1) := dB_36_0_29.1.2.2.2
theorem dX0_farCut_2 : decode cX0_farCut 2 = .ok (.getfield 35, 3) := dB_36_0_29.2.1.1.1
theorem dX0_farCut_5 : decode cX0_farCut 5 = .ok (.getfield 43, 3) := dB_36_0_29.2.1.1.2
theorem dX0_farCut_8 : decode cX0_farCut 8 = .ok (.ishl, 1) := dB_36_0_29.2.1.2.1
theorem dX0_farCut_9 : decode cX0_farCut 9 = .ok (.iconst 1, 1) := dB_36_0_29.2.1.2.2
theorem dX0_farCut_10 : decode cX0_farCut 10 = .ok (.isub, 1) := dB_36_0_29.2.2.1.1
theorem dX0_farCut_11 : decode cX0_farCut 11 = .ok (.aload_n 0, 1) := dB_36_0_29.2.2.1.2
theorem dX0_farCut_12 : decode cX0_farCut 12 = .ok (.iload_n 1, 1) := dB_36_0_29.2.2.2.1
theorem dX0_farCut_13 : decode cX0_farCut 13 = .ok (.invokevirtual 110, 3) := dB_36_0_29.2.2.2.2
theorem dB_36_0_30 : ((((decode cX0_farCut 16 = .ok (.iconst (-1), 1)) ∧ (decode cX0_farCut 17 = .ok (.ixor, 1))) ∧ ((decode cX0_farCut 18 = .ok (.iand, 1)) ∧ (decode cX0_farCut 19 = .ok (.ireturn, 1)))) ∧ (((decode cX0_reachedFrom 0 = .ok (.iconst 1, 1)) ∧ (decode cX0_reachedFrom 1 = .ok (.iload_n 1, 1))) ∧ ((decode cX0_reachedFrom 2 = .ok (.ishl, 1)) ∧ (decode cX0_reachedFrom 3 = .ok (.istore_n 3, 1))))) ∧ ((((decode cX0_reachedFrom 4 = .ok (.iconst 1, 1)) ∧ (decode cX0_reachedFrom 5 = .ok (.istore 4, 2))) ∧ ((decode cX0_reachedFrom 7 = .ok (.aload_n 0, 1)) ∧ (decode cX0_reachedFrom 8 = .ok (.getfield 29, 3)))) ∧ (((decode cX0_reachedFrom 11 = .ok (.iconst 0, 1)) ∧ (decode cX0_reachedFrom 12 = .ok (.iload_n 1, 1))) ∧ ((decode cX0_reachedFrom 13 = .ok (.iastore, 1)) ∧ (decode cX0_reachedFrom 14 = .ok (.iconst 0, 1))))) := by first | decide +kernel | ((repeat' apply And.intro) <;> decide +kernel)
theorem dX0_farCut_16 : decode cX0_farCut 16 = .ok (.iconst (-1), 1) := dB_36_0_30.1.1.1.1
theorem dX0_farCut_17 : decode cX0_farCut 17 = .ok (.ixor, 1) := dB_36_0_30.1.1.1.2
theorem dX0_farCut_18 : decode cX0_farCut 18 = .ok (.iand, 1) := dB_36_0_30.1.1.2.1
theorem dX0_farCut_19 : decode cX0_farCut 19 = .ok (.ireturn, 1) := dB_36_0_30.1.1.2.2
theorem dX0_reachedFrom_0 : decode cX0_reachedFrom 0 = .ok (.iconst 1, 1) := dB_36_0_30.1.2.1.1
theorem dX0_reachedFrom_1 : decode cX0_reachedFrom 1 = .ok (.iload_n 1, 1) := dB_36_0_30.1.2.1.2
theorem dX0_reachedFrom_2 : decode cX0_reachedFrom 2 = .ok (.ishl, 1) := dB_36_0_30.1.2.2.1
theorem dX0_reachedFrom_3 : decode cX0_reachedFrom 3 = .ok (.istore_n 3, 1) := dB_36_0_30.1.2.2.2
theorem dX0_reachedFrom_4 : decode cX0_reachedFrom 4 = .ok (.iconst 1, 1) := dB_36_0_30.2.1.1.1
theorem dX0_reachedFrom_5 : decode cX0_reachedFrom 5 = .ok (.istore 4, 2) := dB_36_0_30.2.1.1.2
theorem dX0_reachedFrom_7 : decode cX0_reachedFrom 7 = .ok (.aload_n 0, 1) := dB_36_0_30.2.1.2.1
theorem dX0_reachedFrom_8 : decode cX0_reachedFrom 8 = .ok (.getfield 29, 3) := dB_36_0_30.2.1.2.2
theorem dX0_reachedFrom_11 : decode cX0_reachedFrom 11 = .ok (.iconst 0, 1) := dB_36_0_30.2.2.1.1
theorem dX0_reachedFrom_12 : decode cX0_reachedFrom 12 = .ok (.iload_n 1, 1) := dB_36_0_30.2.2.1.2
theorem dX0_reachedFrom_13 : decode cX0_reachedFrom 13 = .ok (.iastore, 1) := dB_36_0_30.2.2.2.1
theorem dX0_reachedFrom_14 : decode cX0_reachedFrom 14 = .ok (.iconst 0, 1) := dB_36_0_30.2.2.2.2
theorem dB_36_0_31 : ((((decode cX0_reachedFrom 15 = .ok (.istore 5, 2)) ∧ (decode cX0_reachedFrom 17 = .ok (.iload 5, 2))) ∧ ((decode cX0_reachedFrom 19 = .ok (.iload 4, 2)) ∧ (decode cX0_reachedFrom 21 = .ok (.if_icmp .ge 84, 3)))) ∧ (((decode cX0_reachedFrom 24 = .ok (.iload 5, 2)) ∧ (decode cX0_reachedFrom 26 = .ok (.bipush 12, 2))) ∧ ((decode cX0_reachedFrom 28 = .ok (.if_icmp .ge 77, 3)) ∧ (decode cX0_reachedFrom 31 = .ok (.iconst 0, 1))))) ∧ ((((decode cX0_reachedFrom 32 = .ok (.istore 6, 2)) ∧ (decode cX0_reachedFrom 34 = .ok (.iload 6, 2))) ∧ ((decode cX0_reachedFrom 36 = .ok (.aload_n 0, 1)) ∧ (decode cX0_reachedFrom 37 = .ok (.getfield 35, 3)))) ∧ (((decode cX0_reachedFrom 40 = .ok (.getfield 43, 3)) ∧ (decode cX0_reachedFrom 43 = .ok (.if_icmp .ge 56, 3))) ∧ ((decode cX0_reachedFrom 46 = .ok (.iload_n 3, 1)) ∧ (decode cX0_reachedFrom 47 = .ok (.iload 6, 2))))) := by first | decide +kernel | ((repeat' apply And.intro) <;> decide +kernel)
theorem dX0_reachedFrom_15 : decode cX0_reachedFrom 15 = .ok (.istore 5, 2) := dB_36_0_31.1.1.1.1
theorem dX0_reachedFrom_17 : decode cX0_reachedFrom 17 = .ok (.iload 5, 2) := dB_36_0_31.1.1.1.2
theorem dX0_reachedFrom_19 : decode cX0_reachedFrom 19 = .ok (.iload 4, 2) := dB_36_0_31.1.1.2.1
theorem dX0_reachedFrom_21 : decode cX0_reachedFrom 21 = .ok (.if_icmp .ge 84, 3) := dB_36_0_31.1.1.2.2
theorem dX0_reachedFrom_24 : decode cX0_reachedFrom 24 = .ok (.iload 5, 2) := dB_36_0_31.1.2.1.1
theorem dX0_reachedFrom_26 : decode cX0_reachedFrom 26 = .ok (.bipush 12, 2) := dB_36_0_31.1.2.1.2
theorem dX0_reachedFrom_28 : decode cX0_reachedFrom 28 = .ok (.if_icmp .ge 77, 3) := dB_36_0_31.1.2.2.1
theorem dX0_reachedFrom_31 : decode cX0_reachedFrom 31 = .ok (.iconst 0, 1) := dB_36_0_31.1.2.2.2
theorem dX0_reachedFrom_32 : decode cX0_reachedFrom 32 = .ok (.istore 6, 2) := dB_36_0_31.2.1.1.1
theorem dX0_reachedFrom_34 : decode cX0_reachedFrom 34 = .ok (.iload 6, 2) := dB_36_0_31.2.1.1.2
theorem dX0_reachedFrom_36 : decode cX0_reachedFrom 36 = .ok (.aload_n 0, 1) := dB_36_0_31.2.1.2.1
theorem dX0_reachedFrom_37 : decode cX0_reachedFrom 37 = .ok (.getfield 35, 3) := dB_36_0_31.2.1.2.2
theorem dX0_reachedFrom_40 : decode cX0_reachedFrom 40 = .ok (.getfield 43, 3) := dB_36_0_31.2.2.1.1
theorem dX0_reachedFrom_43 : decode cX0_reachedFrom 43 = .ok (.if_icmp .ge 56, 3) := dB_36_0_31.2.2.1.2
theorem dX0_reachedFrom_46 : decode cX0_reachedFrom 46 = .ok (.iload_n 3, 1) := dB_36_0_31.2.2.2.1
theorem dX0_reachedFrom_47 : decode cX0_reachedFrom 47 = .ok (.iload 6, 2) := dB_36_0_31.2.2.2.2
theorem dB_36_0_32 : ((((decode cX0_reachedFrom 49 = .ok (.ishr, 1)) ∧ (decode cX0_reachedFrom 50 = .ok (.iconst 1, 1))) ∧ ((decode cX0_reachedFrom 51 = .ok (.iand, 1)) ∧ (decode cX0_reachedFrom 52 = .ok (.ifCond .ne 41, 3)))) ∧ (((decode cX0_reachedFrom 55 = .ok (.aload_n 0, 1)) ∧ (decode cX0_reachedFrom 56 = .ok (.getfield 16, 3))) ∧ ((decode cX0_reachedFrom 59 = .ok (.aload_n 0, 1)) ∧ (decode cX0_reachedFrom 60 = .ok (.getfield 29, 3))))) ∧ ((((decode cX0_reachedFrom 63 = .ok (.iload 5, 2)) ∧ (decode cX0_reachedFrom 65 = .ok (.iaload, 1))) ∧ ((decode cX0_reachedFrom 66 = .ok (.aaload, 1)) ∧ (decode cX0_reachedFrom 67 = .ok (.iload 6, 2)))) ∧ (((decode cX0_reachedFrom 69 = .ok (.iaload, 1)) ∧ (decode cX0_reachedFrom 70 = .ok (.iload_n 2, 1))) ∧ ((decode cX0_reachedFrom 71 = .ok (.if_icmp .lt 22, 3)) ∧ (decode cX0_reachedFrom 74 = .ok (.iload_n 3, 1))))) := by first | decide +kernel | ((repeat' apply And.intro) <;> decide +kernel)
theorem dX0_reachedFrom_49 : decode cX0_reachedFrom 49 = .ok (.ishr, 1) := dB_36_0_32.1.1.1.1
theorem dX0_reachedFrom_50 : decode cX0_reachedFrom 50 = .ok (.iconst 1, 1) := dB_36_0_32.1.1.1.2
theorem dX0_reachedFrom_51 : decode cX0_reachedFrom 51 = .ok (.iand, 1) := dB_36_0_32.1.1.2.1
theorem dX0_reachedFrom_52 : decode cX0_reachedFrom 52 = .ok (.ifCond .ne 41, 3) := dB_36_0_32.1.1.2.2
theorem dX0_reachedFrom_55 : decode cX0_reachedFrom 55 = .ok (.aload_n 0, 1) := dB_36_0_32.1.2.1.1
theorem dX0_reachedFrom_56 : decode cX0_reachedFrom 56 = .ok (.getfield 16, 3) := dB_36_0_32.1.2.1.2
theorem dX0_reachedFrom_59 : decode cX0_reachedFrom 59 = .ok (.aload_n 0, 1) := dB_36_0_32.1.2.2.1
theorem dX0_reachedFrom_60 : decode cX0_reachedFrom 60 = .ok (.getfield 29, 3) := dB_36_0_32.1.2.2.2
theorem dX0_reachedFrom_63 : decode cX0_reachedFrom 63 = .ok (.iload 5, 2) := dB_36_0_32.2.1.1.1
theorem dX0_reachedFrom_65 : decode cX0_reachedFrom 65 = .ok (.iaload, 1) := dB_36_0_32.2.1.1.2
theorem dX0_reachedFrom_66 : decode cX0_reachedFrom 66 = .ok (.aaload, 1) := dB_36_0_32.2.1.2.1
theorem dX0_reachedFrom_67 : decode cX0_reachedFrom 67 = .ok (.iload 6, 2) := dB_36_0_32.2.1.2.2
theorem dX0_reachedFrom_69 : decode cX0_reachedFrom 69 = .ok (.iaload, 1) := dB_36_0_32.2.2.1.1
theorem dX0_reachedFrom_70 : decode cX0_reachedFrom 70 = .ok (.iload_n 2, 1) := dB_36_0_32.2.2.1.2
theorem dX0_reachedFrom_71 : decode cX0_reachedFrom 71 = .ok (.if_icmp .lt 22, 3) := dB_36_0_32.2.2.2.1
theorem dX0_reachedFrom_74 : decode cX0_reachedFrom 74 = .ok (.iload_n 3, 1) := dB_36_0_32.2.2.2.2
theorem dB_36_0_33 : ((((decode cX0_reachedFrom 75 = .ok (.iconst 1, 1)) ∧ (decode cX0_reachedFrom 76 = .ok (.iload 6, 2))) ∧ ((decode cX0_reachedFrom 78 = .ok (.ishl, 1)) ∧ (decode cX0_reachedFrom 79 = .ok (.ior, 1)))) ∧ (((decode cX0_reachedFrom 80 = .ok (.istore_n 3, 1)) ∧ (decode cX0_reachedFrom 81 = .ok (.aload_n 0, 1))) ∧ ((decode cX0_reachedFrom 82 = .ok (.getfield 29, 3)) ∧ (decode cX0_reachedFrom 85 = .ok (.iload 4, 2))))) ∧ ((((decode cX0_reachedFrom 87 = .ok (.iload 6, 2)) ∧ (decode cX0_reachedFrom 89 = .ok (.iastore, 1))) ∧ ((decode cX0_reachedFrom 90 = .ok (.iinc 4 1, 3)) ∧ (decode cX0_reachedFrom 93 = .ok (.iinc 6 1, 3)))) ∧ (((decode cX0_reachedFrom 96 = .ok (.goto (-62), 3)) ∧ (decode cX0_reachedFrom 99 = .ok (.iinc 5 1, 3))) ∧ ((decode cX0_reachedFrom 102 = .ok (.goto (-85), 3)) ∧ (decode cX0_reachedFrom 105 = .ok (.iload_n 3, 1))))) := by first | decide +kernel | ((repeat' apply And.intro) <;> decide +kernel)
theorem dX0_reachedFrom_75 : decode cX0_reachedFrom 75 = .ok (.iconst 1, 1) := dB_36_0_33.1.1.1.1
theorem dX0_reachedFrom_76 : decode cX0_reachedFrom 76 = .ok (.iload 6, 2) := dB_36_0_33.1.1.1.2
theorem dX0_reachedFrom_78 : decode cX0_reachedFrom 78 = .ok (.ishl, 1) := dB_36_0_33.1.1.2.1
theorem dX0_reachedFrom_79 : decode cX0_reachedFrom 79 = .ok (.ior, 1) := dB_36_0_33.1.1.2.2
theorem dX0_reachedFrom_80 : decode cX0_reachedFrom 80 = .ok (.istore_n 3, 1) := dB_36_0_33.1.2.1.1
theorem dX0_reachedFrom_81 : decode cX0_reachedFrom 81 = .ok (.aload_n 0, 1) := dB_36_0_33.1.2.1.2
theorem dX0_reachedFrom_82 : decode cX0_reachedFrom 82 = .ok (.getfield 29, 3) := dB_36_0_33.1.2.2.1
theorem dX0_reachedFrom_85 : decode cX0_reachedFrom 85 = .ok (.iload 4, 2) := dB_36_0_33.1.2.2.2
theorem dX0_reachedFrom_87 : decode cX0_reachedFrom 87 = .ok (.iload 6, 2) := dB_36_0_33.2.1.1.1
theorem dX0_reachedFrom_89 : decode cX0_reachedFrom 89 = .ok (.iastore, 1) := dB_36_0_33.2.1.1.2
theorem dX0_reachedFrom_90 : decode cX0_reachedFrom 90 = .ok (.iinc 4 1, 3) := dB_36_0_33.2.1.2.1
theorem dX0_reachedFrom_93 : decode cX0_reachedFrom 93 = .ok (.iinc 6 1, 3) := dB_36_0_33.2.1.2.2
theorem dX0_reachedFrom_96 : decode cX0_reachedFrom 96 = .ok (.goto (-62), 3) := dB_36_0_33.2.2.1.1
theorem dX0_reachedFrom_99 : decode cX0_reachedFrom 99 = .ok (.iinc 5 1, 3) := dB_36_0_33.2.2.1.2
theorem dX0_reachedFrom_102 : decode cX0_reachedFrom 102 = .ok (.goto (-85), 3) := dB_36_0_33.2.2.2.1
theorem dX0_reachedFrom_105 : decode cX0_reachedFrom 105 = .ok (.iload_n 3, 1) := dB_36_0_33.2.2.2.2
theorem dB_36_0_34 : ((((decode cX0_reachedFrom 106 = .ok (.ireturn, 1)) ∧ (decode cX0_reaching 0 = .ok (.iconst 1, 1))) ∧ ((decode cX0_reaching 1 = .ok (.iload_n 1, 1)) ∧ (decode cX0_reaching 2 = .ok (.ishl, 1)))) ∧ (((decode cX0_reaching 3 = .ok (.istore_n 2, 1)) ∧ (decode cX0_reaching 4 = .ok (.iconst 1, 1))) ∧ ((decode cX0_reaching 5 = .ok (.istore_n 3, 1)) ∧ (decode cX0_reaching 6 = .ok (.aload_n 0, 1))))) ∧ ((((decode cX0_reaching 7 = .ok (.getfield 29, 3)) ∧ (decode cX0_reaching 10 = .ok (.iconst 0, 1))) ∧ ((decode cX0_reaching 11 = .ok (.iload_n 1, 1)) ∧ (decode cX0_reaching 12 = .ok (.iastore, 1)))) ∧ (((decode cX0_reaching 13 = .ok (.iconst 0, 1)) ∧ (decode cX0_reaching 14 = .ok (.istore 4, 2))) ∧ ((decode cX0_reaching 16 = .ok (.iload 4, 2)) ∧ (decode cX0_reaching 18 = .ok (.iload_n 3, 1))))) := by first | decide +kernel | ((repeat' apply And.intro) <;> decide +kernel)
theorem dX0_reachedFrom_106 : decode cX0_reachedFrom 106 = .ok (.ireturn, 1) := dB_36_0_34.1.1.1.1
theorem dX0_reaching_0 : decode cX0_reaching 0 = .ok (.iconst 1, 1) := dB_36_0_34.1.1.1.2
theorem dX0_reaching_1 : decode cX0_reaching 1 = .ok (.iload_n 1, 1) := dB_36_0_34.1.1.2.1
theorem dX0_reaching_2 : decode cX0_reaching 2 = .ok (.ishl, 1) := dB_36_0_34.1.1.2.2
theorem dX0_reaching_3 : decode cX0_reaching 3 = .ok (.istore_n 2, 1) := dB_36_0_34.1.2.1.1
theorem dX0_reaching_4 : decode cX0_reaching 4 = .ok (.iconst 1, 1) := dB_36_0_34.1.2.1.2
theorem dX0_reaching_5 : decode cX0_reaching 5 = .ok (.istore_n 3, 1) := dB_36_0_34.1.2.2.1
theorem dX0_reaching_6 : decode cX0_reaching 6 = .ok (.aload_n 0, 1) := dB_36_0_34.1.2.2.2
theorem dX0_reaching_7 : decode cX0_reaching 7 = .ok (.getfield 29, 3) := dB_36_0_34.2.1.1.1
theorem dX0_reaching_10 : decode cX0_reaching 10 = .ok (.iconst 0, 1) := dB_36_0_34.2.1.1.2
theorem dX0_reaching_11 : decode cX0_reaching 11 = .ok (.iload_n 1, 1) := dB_36_0_34.2.1.2.1
theorem dX0_reaching_12 : decode cX0_reaching 12 = .ok (.iastore, 1) := dB_36_0_34.2.1.2.2
theorem dX0_reaching_13 : decode cX0_reaching 13 = .ok (.iconst 0, 1) := dB_36_0_34.2.2.1.1
theorem dX0_reaching_14 : decode cX0_reaching 14 = .ok (.istore 4, 2) := dB_36_0_34.2.2.1.2
theorem dX0_reaching_16 : decode cX0_reaching 16 = .ok (.iload 4, 2) := dB_36_0_34.2.2.2.1
theorem dX0_reaching_18 : decode cX0_reaching 18 = .ok (.iload_n 3, 1) := dB_36_0_34.2.2.2.2
theorem dB_36_0_35 : ((((decode cX0_reaching 19 = .ok (.if_icmp .ge 82, 3)) ∧ (decode cX0_reaching 22 = .ok (.iload 4, 2))) ∧ ((decode cX0_reaching 24 = .ok (.bipush 12, 2)) ∧ (decode cX0_reaching 26 = .ok (.if_icmp .ge 75, 3)))) ∧ (((decode cX0_reaching 29 = .ok (.iconst 0, 1)) ∧ (decode cX0_reaching 30 = .ok (.istore 5, 2))) ∧ ((decode cX0_reaching 32 = .ok (.iload 5, 2)) ∧ (decode cX0_reaching 34 = .ok (.aload_n 0, 1))))) ∧ ((((decode cX0_reaching 35 = .ok (.getfield 35, 3)) ∧ (decode cX0_reaching 38 = .ok (.getfield 43, 3))) ∧ ((decode cX0_reaching 41 = .ok (.if_icmp .ge 54, 3)) ∧ (decode cX0_reaching 44 = .ok (.iload_n 2, 1)))) ∧ (((decode cX0_reaching 45 = .ok (.iload 5, 2)) ∧ (decode cX0_reaching 47 = .ok (.ishr, 1))) ∧ ((decode cX0_reaching 48 = .ok (.iconst 1, 1)) ∧ (decode cX0_reaching 49 = .ok (.iand, 1))))) := by first | decide +kernel | ((repeat' apply And.intro) <;> decide +kernel)
theorem dX0_reaching_19 : decode cX0_reaching 19 = .ok (.if_icmp .ge 82, 3) := dB_36_0_35.1.1.1.1
theorem dX0_reaching_22 : decode cX0_reaching 22 = .ok (.iload 4, 2) := dB_36_0_35.1.1.1.2
theorem dX0_reaching_24 : decode cX0_reaching 24 = .ok (.bipush 12, 2) := dB_36_0_35.1.1.2.1
theorem dX0_reaching_26 : decode cX0_reaching 26 = .ok (.if_icmp .ge 75, 3) := dB_36_0_35.1.1.2.2
theorem dX0_reaching_29 : decode cX0_reaching 29 = .ok (.iconst 0, 1) := dB_36_0_35.1.2.1.1
theorem dX0_reaching_30 : decode cX0_reaching 30 = .ok (.istore 5, 2) := dB_36_0_35.1.2.1.2
theorem dX0_reaching_32 : decode cX0_reaching 32 = .ok (.iload 5, 2) := dB_36_0_35.1.2.2.1
theorem dX0_reaching_34 : decode cX0_reaching 34 = .ok (.aload_n 0, 1) := dB_36_0_35.1.2.2.2
theorem dX0_reaching_35 : decode cX0_reaching 35 = .ok (.getfield 35, 3) := dB_36_0_35.2.1.1.1
theorem dX0_reaching_38 : decode cX0_reaching 38 = .ok (.getfield 43, 3) := dB_36_0_35.2.1.1.2
theorem dX0_reaching_41 : decode cX0_reaching 41 = .ok (.if_icmp .ge 54, 3) := dB_36_0_35.2.1.2.1
theorem dX0_reaching_44 : decode cX0_reaching 44 = .ok (.iload_n 2, 1) := dB_36_0_35.2.1.2.2
theorem dX0_reaching_45 : decode cX0_reaching 45 = .ok (.iload 5, 2) := dB_36_0_35.2.2.1.1
theorem dX0_reaching_47 : decode cX0_reaching 47 = .ok (.ishr, 1) := dB_36_0_35.2.2.1.2
theorem dX0_reaching_48 : decode cX0_reaching 48 = .ok (.iconst 1, 1) := dB_36_0_35.2.2.2.1
theorem dX0_reaching_49 : decode cX0_reaching 49 = .ok (.iand, 1) := dB_36_0_35.2.2.2.2
theorem dB_36_0_36 : ((((decode cX0_reaching 50 = .ok (.ifCond .ne 39, 3)) ∧ (decode cX0_reaching 53 = .ok (.aload_n 0, 1))) ∧ ((decode cX0_reaching 54 = .ok (.getfield 16, 3)) ∧ (decode cX0_reaching 57 = .ok (.iload 5, 2)))) ∧ (((decode cX0_reaching 59 = .ok (.aaload, 1)) ∧ (decode cX0_reaching 60 = .ok (.aload_n 0, 1))) ∧ ((decode cX0_reaching 61 = .ok (.getfield 29, 3)) ∧ (decode cX0_reaching 64 = .ok (.iload 4, 2))))) ∧ ((((decode cX0_reaching 66 = .ok (.iaload, 1)) ∧ (decode cX0_reaching 67 = .ok (.iaload, 1))) ∧ ((decode cX0_reaching 68 = .ok (.ifCond .le 21, 3)) ∧ (decode cX0_reaching 71 = .ok (.iload_n 2, 1)))) ∧ (((decode cX0_reaching 72 = .ok (.iconst 1, 1)) ∧ (decode cX0_reaching 73 = .ok (.iload 5, 2))) ∧ ((decode cX0_reaching 75 = .ok (.ishl, 1)) ∧ (decode cX0_reaching 76 = .ok (.ior, 1))))) := by first | decide +kernel | ((repeat' apply And.intro) <;> decide +kernel)
theorem dX0_reaching_50 : decode cX0_reaching 50 = .ok (.ifCond .ne 39, 3) := dB_36_0_36.1.1.1.1
theorem dX0_reaching_53 : decode cX0_reaching 53 = .ok (.aload_n 0, 1) := dB_36_0_36.1.1.1.2
theorem dX0_reaching_54 : decode cX0_reaching 54 = .ok (.getfield 16, 3) := dB_36_0_36.1.1.2.1
theorem dX0_reaching_57 : decode cX0_reaching 57 = .ok (.iload 5, 2) := dB_36_0_36.1.1.2.2
theorem dX0_reaching_59 : decode cX0_reaching 59 = .ok (.aaload, 1) := dB_36_0_36.1.2.1.1
theorem dX0_reaching_60 : decode cX0_reaching 60 = .ok (.aload_n 0, 1) := dB_36_0_36.1.2.1.2
theorem dX0_reaching_61 : decode cX0_reaching 61 = .ok (.getfield 29, 3) := dB_36_0_36.1.2.2.1
theorem dX0_reaching_64 : decode cX0_reaching 64 = .ok (.iload 4, 2) := dB_36_0_36.1.2.2.2
theorem dX0_reaching_66 : decode cX0_reaching 66 = .ok (.iaload, 1) := dB_36_0_36.2.1.1.1
theorem dX0_reaching_67 : decode cX0_reaching 67 = .ok (.iaload, 1) := dB_36_0_36.2.1.1.2
theorem dX0_reaching_68 : decode cX0_reaching 68 = .ok (.ifCond .le 21, 3) := dB_36_0_36.2.1.2.1
theorem dX0_reaching_71 : decode cX0_reaching 71 = .ok (.iload_n 2, 1) := dB_36_0_36.2.1.2.2
theorem dX0_reaching_72 : decode cX0_reaching 72 = .ok (.iconst 1, 1) := dB_36_0_36.2.2.1.1
theorem dX0_reaching_73 : decode cX0_reaching 73 = .ok (.iload 5, 2) := dB_36_0_36.2.2.1.2
theorem dX0_reaching_75 : decode cX0_reaching 75 = .ok (.ishl, 1) := dB_36_0_36.2.2.2.1
theorem dX0_reaching_76 : decode cX0_reaching 76 = .ok (.ior, 1) := dB_36_0_36.2.2.2.2
theorem dB_36_0_37 : ((((decode cX0_reaching 77 = .ok (.istore_n 2, 1)) ∧ (decode cX0_reaching 78 = .ok (.aload_n 0, 1))) ∧ ((decode cX0_reaching 79 = .ok (.getfield 29, 3)) ∧ (decode cX0_reaching 82 = .ok (.iload_n 3, 1)))) ∧ (((decode cX0_reaching 83 = .ok (.iload 5, 2)) ∧ (decode cX0_reaching 85 = .ok (.iastore, 1))) ∧ ((decode cX0_reaching 86 = .ok (.iinc 3 1, 3)) ∧ (decode cX0_reaching 89 = .ok (.iinc 5 1, 3))))) ∧ ((((decode cX0_reaching 92 = .ok (.goto (-60), 3)) ∧ (decode cX0_reaching 95 = .ok (.iinc 4 1, 3))) ∧ ((decode cX0_reaching 98 = .ok (.goto (-82), 3)) ∧ (decode cX0_reaching 101 = .ok (.iload_n 2, 1)))) ∧ (((decode cX0_reaching 102 = .ok (.ireturn, 1)) ∧ (decode cX0_leaving 0 = .ok (.iconst 0, 1))) ∧ ((decode cX0_leaving 1 = .ok (.istore_n 2, 1)) ∧ (decode cX0_leaving 2 = .ok (.iconst 0, 1))))) := by first | decide +kernel | ((repeat' apply And.intro) <;> decide +kernel)
theorem dX0_reaching_77 : decode cX0_reaching 77 = .ok (.istore_n 2, 1) := dB_36_0_37.1.1.1.1
theorem dX0_reaching_78 : decode cX0_reaching 78 = .ok (.aload_n 0, 1) := dB_36_0_37.1.1.1.2
theorem dX0_reaching_79 : decode cX0_reaching 79 = .ok (.getfield 29, 3) := dB_36_0_37.1.1.2.1
theorem dX0_reaching_82 : decode cX0_reaching 82 = .ok (.iload_n 3, 1) := dB_36_0_37.1.1.2.2
theorem dX0_reaching_83 : decode cX0_reaching 83 = .ok (.iload 5, 2) := dB_36_0_37.1.2.1.1
theorem dX0_reaching_85 : decode cX0_reaching 85 = .ok (.iastore, 1) := dB_36_0_37.1.2.1.2
theorem dX0_reaching_86 : decode cX0_reaching 86 = .ok (.iinc 3 1, 3) := dB_36_0_37.1.2.2.1
theorem dX0_reaching_89 : decode cX0_reaching 89 = .ok (.iinc 5 1, 3) := dB_36_0_37.1.2.2.2
theorem dX0_reaching_92 : decode cX0_reaching 92 = .ok (.goto (-60), 3) := dB_36_0_37.2.1.1.1
theorem dX0_reaching_95 : decode cX0_reaching 95 = .ok (.iinc 4 1, 3) := dB_36_0_37.2.1.1.2
theorem dX0_reaching_98 : decode cX0_reaching 98 = .ok (.goto (-82), 3) := dB_36_0_37.2.1.2.1
theorem dX0_reaching_101 : decode cX0_reaching 101 = .ok (.iload_n 2, 1) := dB_36_0_37.2.1.2.2
theorem dX0_reaching_102 : decode cX0_reaching 102 = .ok (.ireturn, 1) := dB_36_0_37.2.2.1.1
theorem dX0_leaving_0 : decode cX0_leaving 0 = .ok (.iconst 0, 1) := dB_36_0_37.2.2.1.2
theorem dX0_leaving_1 : decode cX0_leaving 1 = .ok (.istore_n 2, 1) := dB_36_0_37.2.2.2.1
theorem dX0_leaving_2 : decode cX0_leaving 2 = .ok (.iconst 0, 1) := dB_36_0_37.2.2.2.2
theorem dB_36_0_38 : ((((decode cX0_leaving 3 = .ok (.istore_n 3, 1)) ∧ (decode cX0_leaving 4 = .ok (.iload_n 3, 1))) ∧ ((decode cX0_leaving 5 = .ok (.aload_n 0, 1)) ∧ (decode cX0_leaving 6 = .ok (.getfield 35, 3)))) ∧ (((decode cX0_leaving 9 = .ok (.getfield 43, 3)) ∧ (decode cX0_leaving 12 = .ok (.if_icmp .ge 29, 3))) ∧ ((decode cX0_leaving 15 = .ok (.iload_n 1, 1)) ∧ (decode cX0_leaving 16 = .ok (.iload_n 3, 1))))) ∧ ((((decode cX0_leaving 17 = .ok (.ishr, 1)) ∧ (decode cX0_leaving 18 = .ok (.iconst 1, 1))) ∧ ((decode cX0_leaving 19 = .ok (.iand, 1)) ∧ (decode cX0_leaving 20 = .ok (.iconst 1, 1)))) ∧ (((decode cX0_leaving 21 = .ok (.if_icmp .ne 14, 3)) ∧ (decode cX0_leaving 24 = .ok (.iload_n 2, 1))) ∧ ((decode cX0_leaving 25 = .ok (.aload_n 0, 1)) ∧ (decode cX0_leaving 26 = .ok (.iload_n 3, 1))))) := by first | decide +kernel | ((repeat' apply And.intro) <;> decide +kernel)
theorem dX0_leaving_3 : decode cX0_leaving 3 = .ok (.istore_n 3, 1) := dB_36_0_38.1.1.1.1
theorem dX0_leaving_4 : decode cX0_leaving 4 = .ok (.iload_n 3, 1) := dB_36_0_38.1.1.1.2
theorem dX0_leaving_5 : decode cX0_leaving 5 = .ok (.aload_n 0, 1) := dB_36_0_38.1.1.2.1
theorem dX0_leaving_6 : decode cX0_leaving 6 = .ok (.getfield 35, 3) := dB_36_0_38.1.1.2.2
theorem dX0_leaving_9 : decode cX0_leaving 9 = .ok (.getfield 43, 3) := dB_36_0_38.1.2.1.1
theorem dX0_leaving_12 : decode cX0_leaving 12 = .ok (.if_icmp .ge 29, 3) := dB_36_0_38.1.2.1.2
theorem dX0_leaving_15 : decode cX0_leaving 15 = .ok (.iload_n 1, 1) := dB_36_0_38.1.2.2.1
theorem dX0_leaving_16 : decode cX0_leaving 16 = .ok (.iload_n 3, 1) := dB_36_0_38.1.2.2.2
theorem dX0_leaving_17 : decode cX0_leaving 17 = .ok (.ishr, 1) := dB_36_0_38.2.1.1.1
theorem dX0_leaving_18 : decode cX0_leaving 18 = .ok (.iconst 1, 1) := dB_36_0_38.2.1.1.2
theorem dX0_leaving_19 : decode cX0_leaving 19 = .ok (.iand, 1) := dB_36_0_38.2.1.2.1
theorem dX0_leaving_20 : decode cX0_leaving 20 = .ok (.iconst 1, 1) := dB_36_0_38.2.1.2.2
theorem dX0_leaving_21 : decode cX0_leaving 21 = .ok (.if_icmp .ne 14, 3) := dB_36_0_38.2.2.1.1
theorem dX0_leaving_24 : decode cX0_leaving 24 = .ok (.iload_n 2, 1) := dB_36_0_38.2.2.1.2
theorem dX0_leaving_25 : decode cX0_leaving 25 = .ok (.aload_n 0, 1) := dB_36_0_38.2.2.2.1
theorem dX0_leaving_26 : decode cX0_leaving 26 = .ok (.iload_n 3, 1) := dB_36_0_38.2.2.2.2
theorem dB_36_0_39 : ((((decode cX0_leaving 27 = .ok (.iload_n 1, 1)) ∧ (decode cX0_leaving 28 = .ok (.iconst (-1), 1))) ∧ ((decode cX0_leaving 29 = .ok (.ixor, 1)) ∧ (decode cX0_leaving 30 = .ok (.invokevirtual 113, 3)))) ∧ (((decode cX0_leaving 33 = .ok (.iadd, 1)) ∧ (decode cX0_leaving 34 = .ok (.istore_n 2, 1))) ∧ ((decode cX0_leaving 35 = .ok (.iinc 3 1, 3)) ∧ (decode cX0_leaving 38 = .ok (.goto (-34), 3))))) ∧ ((((decode cX0_leaving 41 = .ok (.iload_n 2, 1)) ∧ (decode cX0_leaving 42 = .ok (.ireturn, 1))) ∧ ((decode cX0_betweenSets 0 = .ok (.iconst 0, 1)) ∧ (decode cX0_betweenSets 1 = .ok (.istore_n 3, 1)))) ∧ (((decode cX0_betweenSets 2 = .ok (.iconst 0, 1)) ∧ (decode cX0_betweenSets 3 = .ok (.istore 4, 2))) ∧ ((decode cX0_betweenSets 5 = .ok (.iload 4, 2)) ∧ (decode cX0_betweenSets 7 = .ok (.aload_n 0, 1))))) := by first | decide +kernel | ((repeat' apply And.intro) <;> decide +kernel)
theorem dX0_leaving_27 : decode cX0_leaving 27 = .ok (.iload_n 1, 1) := dB_36_0_39.1.1.1.1
theorem dX0_leaving_28 : decode cX0_leaving 28 = .ok (.iconst (-1), 1) := dB_36_0_39.1.1.1.2
theorem dX0_leaving_29 : decode cX0_leaving 29 = .ok (.ixor, 1) := dB_36_0_39.1.1.2.1
theorem dX0_leaving_30 : decode cX0_leaving 30 = .ok (.invokevirtual 113, 3) := dB_36_0_39.1.1.2.2
theorem dX0_leaving_33 : decode cX0_leaving 33 = .ok (.iadd, 1) := dB_36_0_39.1.2.1.1
theorem dX0_leaving_34 : decode cX0_leaving 34 = .ok (.istore_n 2, 1) := dB_36_0_39.1.2.1.2
theorem dX0_leaving_35 : decode cX0_leaving 35 = .ok (.iinc 3 1, 3) := dB_36_0_39.1.2.2.1
theorem dX0_leaving_38 : decode cX0_leaving 38 = .ok (.goto (-34), 3) := dB_36_0_39.1.2.2.2
theorem dX0_leaving_41 : decode cX0_leaving 41 = .ok (.iload_n 2, 1) := dB_36_0_39.2.1.1.1
theorem dX0_leaving_42 : decode cX0_leaving 42 = .ok (.ireturn, 1) := dB_36_0_39.2.1.1.2
theorem dX0_betweenSets_0 : decode cX0_betweenSets 0 = .ok (.iconst 0, 1) := dB_36_0_39.2.1.2.1
theorem dX0_betweenSets_1 : decode cX0_betweenSets 1 = .ok (.istore_n 3, 1) := dB_36_0_39.2.1.2.2
theorem dX0_betweenSets_2 : decode cX0_betweenSets 2 = .ok (.iconst 0, 1) := dB_36_0_39.2.2.1.1
theorem dX0_betweenSets_3 : decode cX0_betweenSets 3 = .ok (.istore 4, 2) := dB_36_0_39.2.2.1.2
theorem dX0_betweenSets_5 : decode cX0_betweenSets 5 = .ok (.iload 4, 2) := dB_36_0_39.2.2.2.1
theorem dX0_betweenSets_7 : decode cX0_betweenSets 7 = .ok (.aload_n 0, 1) := dB_36_0_39.2.2.2.2
theorem dB_36_0_40 : ((((decode cX0_betweenSets 8 = .ok (.getfield 35, 3)) ∧ (decode cX0_betweenSets 11 = .ok (.getfield 43, 3))) ∧ ((decode cX0_betweenSets 14 = .ok (.if_icmp .ge 31, 3)) ∧ (decode cX0_betweenSets 17 = .ok (.iload_n 2, 1)))) ∧ (((decode cX0_betweenSets 18 = .ok (.iload 4, 2)) ∧ (decode cX0_betweenSets 20 = .ok (.ishr, 1))) ∧ ((decode cX0_betweenSets 21 = .ok (.iconst 1, 1)) ∧ (decode cX0_betweenSets 22 = .ok (.iand, 1))))) ∧ ((((decode cX0_betweenSets 23 = .ok (.iconst 1, 1)) ∧ (decode cX0_betweenSets 24 = .ok (.if_icmp .ne 15, 3))) ∧ ((decode cX0_betweenSets 27 = .ok (.iload_n 3, 1)) ∧ (decode cX0_betweenSets 28 = .ok (.aload_n 0, 1)))) ∧ (((decode cX0_betweenSets 29 = .ok (.getfield 11, 3)) ∧ (decode cX0_betweenSets 32 = .ok (.iload_n 1, 1))) ∧ ((decode cX0_betweenSets 33 = .ok (.aaload, 1)) ∧ (decode cX0_betweenSets 34 = .ok (.iload 4, 2))))) := by first | decide +kernel | ((repeat' apply And.intro) <;> decide +kernel)
theorem dX0_betweenSets_8 : decode cX0_betweenSets 8 = .ok (.getfield 35, 3) := dB_36_0_40.1.1.1.1
theorem dX0_betweenSets_11 : decode cX0_betweenSets 11 = .ok (.getfield 43, 3) := dB_36_0_40.1.1.1.2
theorem dX0_betweenSets_14 : decode cX0_betweenSets 14 = .ok (.if_icmp .ge 31, 3) := dB_36_0_40.1.1.2.1
theorem dX0_betweenSets_17 : decode cX0_betweenSets 17 = .ok (.iload_n 2, 1) := dB_36_0_40.1.1.2.2
theorem dX0_betweenSets_18 : decode cX0_betweenSets 18 = .ok (.iload 4, 2) := dB_36_0_40.1.2.1.1
theorem dX0_betweenSets_20 : decode cX0_betweenSets 20 = .ok (.ishr, 1) := dB_36_0_40.1.2.1.2
theorem dX0_betweenSets_21 : decode cX0_betweenSets 21 = .ok (.iconst 1, 1) := dB_36_0_40.1.2.2.1
theorem dX0_betweenSets_22 : decode cX0_betweenSets 22 = .ok (.iand, 1) := dB_36_0_40.1.2.2.2
theorem dX0_betweenSets_23 : decode cX0_betweenSets 23 = .ok (.iconst 1, 1) := dB_36_0_40.2.1.1.1
theorem dX0_betweenSets_24 : decode cX0_betweenSets 24 = .ok (.if_icmp .ne 15, 3) := dB_36_0_40.2.1.1.2
theorem dX0_betweenSets_27 : decode cX0_betweenSets 27 = .ok (.iload_n 3, 1) := dB_36_0_40.2.1.2.1
theorem dX0_betweenSets_28 : decode cX0_betweenSets 28 = .ok (.aload_n 0, 1) := dB_36_0_40.2.1.2.2
theorem dX0_betweenSets_29 : decode cX0_betweenSets 29 = .ok (.getfield 11, 3) := dB_36_0_40.2.2.1.1
theorem dX0_betweenSets_32 : decode cX0_betweenSets 32 = .ok (.iload_n 1, 1) := dB_36_0_40.2.2.1.2
theorem dX0_betweenSets_33 : decode cX0_betweenSets 33 = .ok (.aaload, 1) := dB_36_0_40.2.2.2.1
theorem dX0_betweenSets_34 : decode cX0_betweenSets 34 = .ok (.iload 4, 2) := dB_36_0_40.2.2.2.2
theorem dB_36_0_41 : ((((decode cX0_betweenSets 36 = .ok (.iaload, 1)) ∧ (decode cX0_betweenSets 37 = .ok (.iadd, 1))) ∧ ((decode cX0_betweenSets 38 = .ok (.istore_n 3, 1)) ∧ (decode cX0_betweenSets 39 = .ok (.iinc 4 1, 3)))) ∧ (((decode cX0_betweenSets 42 = .ok (.goto (-37), 3)) ∧ (decode cX0_betweenSets 45 = .ok (.iload_n 3, 1))) ∧ ((decode cX0_betweenSets 46 = .ok (.ireturn, 1)) ∧ (decode cX1_init 0 = .ok (.aload_n 0, 1))))) ∧ ((((decode cX1_init 1 = .ok (.invokespecial 3, 3)) ∧ (decode cX1_init 4 = .ok (.aload_n 0, 1))) ∧ ((decode cX1_init 5 = .ok (.bipush 12, 2)) ∧ (decode cX1_init 7 = .ok (.newarray .int, 2)))) ∧ (((decode cX1_init 9 = .ok (.putfield 9, 3)) ∧ (decode cX1_init 12 = .ok (.aload_n 0, 1))) ∧ ((decode cX1_init 13 = .ok (.bipush 12, 2)) ∧ (decode cX1_init 15 = .ok (.newarray .int, 2))))) := by first | decide +kernel | ((repeat' apply And.intro) <;> decide +kernel)
theorem dX0_betweenSets_36 : decode cX0_betweenSets 36 = .ok (.iaload, 1) := dB_36_0_41.1.1.1.1
theorem dX0_betweenSets_37 : decode cX0_betweenSets 37 = .ok (.iadd, 1) := dB_36_0_41.1.1.1.2
theorem dX0_betweenSets_38 : decode cX0_betweenSets 38 = .ok (.istore_n 3, 1) := dB_36_0_41.1.1.2.1
theorem dX0_betweenSets_39 : decode cX0_betweenSets 39 = .ok (.iinc 4 1, 3) := dB_36_0_41.1.1.2.2
theorem dX0_betweenSets_42 : decode cX0_betweenSets 42 = .ok (.goto (-37), 3) := dB_36_0_41.1.2.1.1
theorem dX0_betweenSets_45 : decode cX0_betweenSets 45 = .ok (.iload_n 3, 1) := dB_36_0_41.1.2.1.2
theorem dX0_betweenSets_46 : decode cX0_betweenSets 46 = .ok (.ireturn, 1) := dB_36_0_41.1.2.2.1
theorem dX1_init_0 : decode cX1_init 0 = .ok (.aload_n 0, 1) := dB_36_0_41.1.2.2.2
theorem dX1_init_1 : decode cX1_init 1 = .ok (.invokespecial 3, 3) := dB_36_0_41.2.1.1.1
theorem dX1_init_4 : decode cX1_init 4 = .ok (.aload_n 0, 1) := dB_36_0_41.2.1.1.2
theorem dX1_init_5 : decode cX1_init 5 = .ok (.bipush 12, 2) := dB_36_0_41.2.1.2.1
theorem dX1_init_7 : decode cX1_init 7 = .ok (.newarray .int, 2) := dB_36_0_41.2.1.2.2
theorem dX1_init_9 : decode cX1_init 9 = .ok (.putfield 9, 3) := dB_36_0_41.2.2.1.1
theorem dX1_init_12 : decode cX1_init 12 = .ok (.aload_n 0, 1) := dB_36_0_41.2.2.1.2
theorem dX1_init_13 : decode cX1_init 13 = .ok (.bipush 12, 2) := dB_36_0_41.2.2.2.1
theorem dX1_init_15 : decode cX1_init 15 = .ok (.newarray .int, 2) := dB_36_0_41.2.2.2.2
theorem dB_36_0_42 : ((((decode cX1_init 17 = .ok (.putfield 15, 3)) ∧ (decode cX1_init 20 = .ok (.aload_n 0, 1))) ∧ ((decode cX1_init 21 = .ok (.aload_n 1, 1)) ∧ (decode cX1_init 22 = .ok (.putfield 18, 3)))) ∧ (((decode cX1_init 25 = .ok (.return_, 1)) ∧ (decode cX1_grow 0 = .ok (.aload_n 0, 1))) ∧ ((decode cX1_grow 1 = .ok (.getfield 18, 3)) ∧ (decode cX1_grow 4 = .ok (.bipush (-9), 2))))) ∧ ((((decode cX1_grow 6 = .ok (.invokevirtual 22, 3)) ∧ (decode cX1_grow 9 = .ok (.aload_n 0, 1))) ∧ ((decode cX1_grow 10 = .ok (.getfield 9, 3)) ∧ (decode cX1_grow 13 = .ok (.iconst 0, 1)))) ∧ (((decode cX1_grow 14 = .ok (.invokestatic 28, 3)) ∧ (decode cX1_grow 17 = .ok (.aload_n 0, 1))) ∧ ((decode cX1_grow 18 = .ok (.getfield 9, 3)) ∧ (decode cX1_grow 21 = .ok (.iconst 0, 1))))) := by first | decide +kernel | ((repeat' apply And.intro) <;> decide +kernel)
theorem dX1_init_17 : decode cX1_init 17 = .ok (.putfield 15, 3) := dB_36_0_42.1.1.1.1
theorem dX1_init_20 : decode cX1_init 20 = .ok (.aload_n 0, 1) := dB_36_0_42.1.1.1.2
theorem dX1_init_21 : decode cX1_init 21 = .ok (.aload_n 1, 1) := dB_36_0_42.1.1.2.1
theorem dX1_init_22 : decode cX1_init 22 = .ok (.putfield 18, 3) := dB_36_0_42.1.1.2.2
theorem dX1_init_25 : decode cX1_init 25 = .ok (.return_, 1) := dB_36_0_42.1.2.1.1
theorem dX1_grow_0 : decode cX1_grow 0 = .ok (.aload_n 0, 1) := dB_36_0_42.1.2.1.2
theorem dX1_grow_1 : decode cX1_grow 1 = .ok (.getfield 18, 3) := dB_36_0_42.1.2.2.1
theorem dX1_grow_4 : decode cX1_grow 4 = .ok (.bipush (-9), 2) := dB_36_0_42.1.2.2.2
theorem dX1_grow_6 : decode cX1_grow 6 = .ok (.invokevirtual 22, 3) := dB_36_0_42.2.1.1.1
theorem dX1_grow_9 : decode cX1_grow 9 = .ok (.aload_n 0, 1) := dB_36_0_42.2.1.1.2
theorem dX1_grow_10 : decode cX1_grow 10 = .ok (.getfield 9, 3) := dB_36_0_42.2.1.2.1
theorem dX1_grow_13 : decode cX1_grow 13 = .ok (.iconst 0, 1) := dB_36_0_42.2.1.2.2
theorem dX1_grow_14 : decode cX1_grow 14 = .ok (.invokestatic 28, 3) := dB_36_0_42.2.2.1.1
theorem dX1_grow_17 : decode cX1_grow 17 = .ok (.aload_n 0, 1) := dB_36_0_42.2.2.1.2
theorem dX1_grow_18 : decode cX1_grow 18 = .ok (.getfield 9, 3) := dB_36_0_42.2.2.2.1
theorem dX1_grow_21 : decode cX1_grow 21 = .ok (.iconst 0, 1) := dB_36_0_42.2.2.2.2
theorem dB_36_0_43 : ((((decode cX1_grow 22 = .ok (.bipush (-9), 2)) ∧ (decode cX1_grow 24 = .ok (.iastore, 1))) ∧ ((decode cX1_grow 25 = .ok (.aload_n 0, 1)) ∧ (decode cX1_grow 26 = .ok (.getfield 15, 3)))) ∧ (((decode cX1_grow 29 = .ok (.iconst 0, 1)) ∧ (decode cX1_grow 30 = .ok (.bipush (-9), 2))) ∧ ((decode cX1_grow 32 = .ok (.iastore, 1)) ∧ (decode cX1_grow 33 = .ok (.iconst 1, 1))))) ∧ ((((decode cX1_grow 34 = .ok (.istore_n 1, 1)) ∧ (decode cX1_grow 35 = .ok (.iload_n 1, 1))) ∧ ((decode cX1_grow 36 = .ok (.aload_n 0, 1)) ∧ (decode cX1_grow 37 = .ok (.getfield 18, 3)))) ∧ (((decode cX1_grow 40 = .ok (.getfield 34, 3)) ∧ (decode cX1_grow 43 = .ok (.getfield 38, 3))) ∧ ((decode cX1_grow 46 = .ok (.if_icmp .ge 14, 3)) ∧ (decode cX1_grow 49 = .ok (.aload_n 0, 1))))) := by first | decide +kernel | ((repeat' apply And.intro) <;> decide +kernel)
theorem dX1_grow_22 : decode cX1_grow 22 = .ok (.bipush (-9), 2) := dB_36_0_43.1.1.1.1
theorem dX1_grow_24 : decode cX1_grow 24 = .ok (.iastore, 1) := dB_36_0_43.1.1.1.2
theorem dX1_grow_25 : decode cX1_grow 25 = .ok (.aload_n 0, 1) := dB_36_0_43.1.1.2.1
theorem dX1_grow_26 : decode cX1_grow 26 = .ok (.getfield 15, 3) := dB_36_0_43.1.1.2.2
theorem dX1_grow_29 : decode cX1_grow 29 = .ok (.iconst 0, 1) := dB_36_0_43.1.2.1.1
theorem dX1_grow_30 : decode cX1_grow 30 = .ok (.bipush (-9), 2) := dB_36_0_43.1.2.1.2
theorem dX1_grow_32 : decode cX1_grow 32 = .ok (.iastore, 1) := dB_36_0_43.1.2.2.1
theorem dX1_grow_33 : decode cX1_grow 33 = .ok (.iconst 1, 1) := dB_36_0_43.1.2.2.2
theorem dX1_grow_34 : decode cX1_grow 34 = .ok (.istore_n 1, 1) := dB_36_0_43.2.1.1.1
theorem dX1_grow_35 : decode cX1_grow 35 = .ok (.iload_n 1, 1) := dB_36_0_43.2.1.1.2
theorem dX1_grow_36 : decode cX1_grow 36 = .ok (.aload_n 0, 1) := dB_36_0_43.2.1.2.1
theorem dX1_grow_37 : decode cX1_grow 37 = .ok (.getfield 18, 3) := dB_36_0_43.2.1.2.2
theorem dX1_grow_40 : decode cX1_grow 40 = .ok (.getfield 34, 3) := dB_36_0_43.2.2.1.1
theorem dX1_grow_43 : decode cX1_grow 43 = .ok (.getfield 38, 3) := dB_36_0_43.2.2.1.2
theorem dX1_grow_46 : decode cX1_grow 46 = .ok (.if_icmp .ge 14, 3) := dB_36_0_43.2.2.2.1
theorem dX1_grow_49 : decode cX1_grow 49 = .ok (.aload_n 0, 1) := dB_36_0_43.2.2.2.2
theorem dB_36_0_44 : ((((decode cX1_grow 50 = .ok (.iload_n 1, 1)) ∧ (decode cX1_grow 51 = .ok (.invokevirtual 44, 3))) ∧ ((decode cX1_grow 54 = .ok (.iinc 1 1, 3)) ∧ (decode cX1_grow 57 = .ok (.goto (-22), 3)))) ∧ (((decode cX1_grow 60 = .ok (.return_, 1)) ∧ (decode cX1_hang 0 = .ok (.aload_n 0, 1))) ∧ ((decode cX1_hang 1 = .ok (.getfield 9, 3)) ∧ (decode cX1_hang 4 = .ok (.iload_n 1, 1))))) ∧ ((((decode cX1_hang 5 = .ok (.iaload, 1)) ∧ (decode cX1_hang 6 = .ok (.istore_n 2, 1))) ∧ ((decode cX1_hang 7 = .ok (.aload_n 0, 1)) ∧ (decode cX1_hang 8 = .ok (.getfield 18, 3)))) ∧ (((decode cX1_hang 11 = .ok (.iload_n 1, 1)) ∧ (decode cX1_hang 12 = .ok (.iload_n 2, 1))) ∧ ((decode cX1_hang 13 = .ok (.invokevirtual 47, 3)) ∧ (decode cX1_hang 16 = .ok (.istore_n 3, 1))))) := by first | decide +kernel | ((repeat' apply And.intro) <;> decide +kernel)
theorem dX1_grow_50 : decode cX1_grow 50 = .ok (.iload_n 1, 1) := dB_36_0_44.1.1.1.1
theorem dX1_grow_51 : decode cX1_grow 51 = .ok (.invokevirtual 44, 3) := dB_36_0_44.1.1.1.2
theorem dX1_grow_54 : decode cX1_grow 54 = .ok (.iinc 1 1, 3) := dB_36_0_44.1.1.2.1
theorem dX1_grow_57 : decode cX1_grow 57 = .ok (.goto (-22), 3) := dB_36_0_44.1.1.2.2
theorem dX1_grow_60 : decode cX1_grow 60 = .ok (.return_, 1) := dB_36_0_44.1.2.1.1
theorem dX1_hang_0 : decode cX1_hang 0 = .ok (.aload_n 0, 1) := dB_36_0_44.1.2.1.2
theorem dX1_hang_1 : decode cX1_hang 1 = .ok (.getfield 9, 3) := dB_36_0_44.1.2.2.1
theorem dX1_hang_4 : decode cX1_hang 4 = .ok (.iload_n 1, 1) := dB_36_0_44.1.2.2.2
theorem dX1_hang_5 : decode cX1_hang 5 = .ok (.iaload, 1) := dB_36_0_44.2.1.1.1
theorem dX1_hang_6 : decode cX1_hang 6 = .ok (.istore_n 2, 1) := dB_36_0_44.2.1.1.2
theorem dX1_hang_7 : decode cX1_hang 7 = .ok (.aload_n 0, 1) := dB_36_0_44.2.1.2.1
theorem dX1_hang_8 : decode cX1_hang 8 = .ok (.getfield 18, 3) := dB_36_0_44.2.1.2.2
theorem dX1_hang_11 : decode cX1_hang 11 = .ok (.iload_n 1, 1) := dB_36_0_44.2.2.1.1
theorem dX1_hang_12 : decode cX1_hang 12 = .ok (.iload_n 2, 1) := dB_36_0_44.2.2.1.2
theorem dX1_hang_13 : decode cX1_hang 13 = .ok (.invokevirtual 47, 3) := dB_36_0_44.2.2.2.1
theorem dX1_hang_16 : decode cX1_hang 16 = .ok (.istore_n 3, 1) := dB_36_0_44.2.2.2.2
theorem dB_36_0_45 : ((((decode cX1_hang 17 = .ok (.aload_n 0, 1)) ∧ (decode cX1_hang 18 = .ok (.getfield 18, 3))) ∧ ((decode cX1_hang 21 = .ok (.iload_n 1, 1)) ∧ (decode cX1_hang 22 = .ok (.invokevirtual 50, 3)))) ∧ (((decode cX1_hang 25 = .ok (.istore 4, 2)) ∧ (decode cX1_hang 27 = .ok (.aload_n 0, 1))) ∧ ((decode cX1_hang 28 = .ok (.getfield 15, 3)) ∧ (decode cX1_hang 31 = .ok (.iload_n 1, 1))))) ∧ ((((decode cX1_hang 32 = .ok (.iload_n 3, 1)) ∧ (decode cX1_hang 33 = .ok (.iastore, 1))) ∧ ((decode cX1_hang 34 = .ok (.iload_n 1, 1)) ∧ (decode cX1_hang 35 = .ok (.iconst 1, 1)))) ∧ (((decode cX1_hang 36 = .ok (.iadd, 1)) ∧ (decode cX1_hang 37 = .ok (.istore 5, 2))) ∧ ((decode cX1_hang 39 = .ok (.iload 5, 2)) ∧ (decode cX1_hang 41 = .ok (.aload_n 0, 1))))) := by first | decide +kernel | ((repeat' apply And.intro) <;> decide +kernel)
theorem dX1_hang_17 : decode cX1_hang 17 = .ok (.aload_n 0, 1) := dB_36_0_45.1.1.1.1
theorem dX1_hang_18 : decode cX1_hang 18 = .ok (.getfield 18, 3) := dB_36_0_45.1.1.1.2
theorem dX1_hang_21 : decode cX1_hang 21 = .ok (.iload_n 1, 1) := dB_36_0_45.1.1.2.1
theorem dX1_hang_22 : decode cX1_hang 22 = .ok (.invokevirtual 50, 3) := dB_36_0_45.1.1.2.2
theorem dX1_hang_25 : decode cX1_hang 25 = .ok (.istore 4, 2) := dB_36_0_45.1.2.1.1
theorem dX1_hang_27 : decode cX1_hang 27 = .ok (.aload_n 0, 1) := dB_36_0_45.1.2.1.2
theorem dX1_hang_28 : decode cX1_hang 28 = .ok (.getfield 15, 3) := dB_36_0_45.1.2.2.1
theorem dX1_hang_31 : decode cX1_hang 31 = .ok (.iload_n 1, 1) := dB_36_0_45.1.2.2.2
theorem dX1_hang_32 : decode cX1_hang 32 = .ok (.iload_n 3, 1) := dB_36_0_45.2.1.1.1
theorem dX1_hang_33 : decode cX1_hang 33 = .ok (.iastore, 1) := dB_36_0_45.2.1.1.2
theorem dX1_hang_34 : decode cX1_hang 34 = .ok (.iload_n 1, 1) := dB_36_0_45.2.1.2.1
theorem dX1_hang_35 : decode cX1_hang 35 = .ok (.iconst 1, 1) := dB_36_0_45.2.1.2.2
theorem dX1_hang_36 : decode cX1_hang 36 = .ok (.iadd, 1) := dB_36_0_45.2.2.1.1
theorem dX1_hang_37 : decode cX1_hang 37 = .ok (.istore 5, 2) := dB_36_0_45.2.2.1.2
theorem dX1_hang_39 : decode cX1_hang 39 = .ok (.iload 5, 2) := dB_36_0_45.2.2.2.1
theorem dX1_hang_41 : decode cX1_hang 41 = .ok (.aload_n 0, 1) := dB_36_0_45.2.2.2.2
theorem dB_36_0_46 : ((((decode cX1_hang 42 = .ok (.getfield 18, 3)) ∧ (decode cX1_hang 45 = .ok (.getfield 34, 3))) ∧ ((decode cX1_hang 48 = .ok (.getfield 38, 3)) ∧ (decode cX1_hang 51 = .ok (.if_icmp .ge 39, 3)))) ∧ (((decode cX1_hang 54 = .ok (.iload 4, 2)) ∧ (decode cX1_hang 56 = .ok (.iload 5, 2))) ∧ ((decode cX1_hang 58 = .ok (.ishr, 1)) ∧ (decode cX1_hang 59 = .ok (.iconst 1, 1))))) ∧ ((((decode cX1_hang 60 = .ok (.iand, 1)) ∧ (decode cX1_hang 61 = .ok (.iconst 1, 1))) ∧ ((decode cX1_hang 62 = .ok (.if_icmp .ne 22, 3)) ∧ (decode cX1_hang 65 = .ok (.aload_n 0, 1)))) ∧ (((decode cX1_hang 66 = .ok (.getfield 9, 3)) ∧ (decode cX1_hang 69 = .ok (.iload 5, 2))) ∧ ((decode cX1_hang 71 = .ok (.iaload, 1)) ∧ (decode cX1_hang 72 = .ok (.iload_n 2, 1))))) := by first | decide +kernel | ((repeat' apply And.intro) <;> decide +kernel)
theorem dX1_hang_42 : decode cX1_hang 42 = .ok (.getfield 18, 3) := dB_36_0_46.1.1.1.1
theorem dX1_hang_45 : decode cX1_hang 45 = .ok (.getfield 34, 3) := dB_36_0_46.1.1.1.2
theorem dX1_hang_48 : decode cX1_hang 48 = .ok (.getfield 38, 3) := dB_36_0_46.1.1.2.1
theorem dX1_hang_51 : decode cX1_hang 51 = .ok (.if_icmp .ge 39, 3) := dB_36_0_46.1.1.2.2
theorem dX1_hang_54 : decode cX1_hang 54 = .ok (.iload 4, 2) := dB_36_0_46.1.2.1.1
theorem dX1_hang_56 : decode cX1_hang 56 = .ok (.iload 5, 2) := dB_36_0_46.1.2.1.2
theorem dX1_hang_58 : decode cX1_hang 58 = .ok (.ishr, 1) := dB_36_0_46.1.2.2.1
theorem dX1_hang_59 : decode cX1_hang 59 = .ok (.iconst 1, 1) := dB_36_0_46.1.2.2.2
theorem dX1_hang_60 : decode cX1_hang 60 = .ok (.iand, 1) := dB_36_0_46.2.1.1.1
theorem dX1_hang_61 : decode cX1_hang 61 = .ok (.iconst 1, 1) := dB_36_0_46.2.1.1.2
theorem dX1_hang_62 : decode cX1_hang 62 = .ok (.if_icmp .ne 22, 3) := dB_36_0_46.2.1.2.1
theorem dX1_hang_65 : decode cX1_hang 65 = .ok (.aload_n 0, 1) := dB_36_0_46.2.1.2.2
theorem dX1_hang_66 : decode cX1_hang 66 = .ok (.getfield 9, 3) := dB_36_0_46.2.2.1.1
theorem dX1_hang_69 : decode cX1_hang 69 = .ok (.iload 5, 2) := dB_36_0_46.2.2.1.2
theorem dX1_hang_71 : decode cX1_hang 71 = .ok (.iaload, 1) := dB_36_0_46.2.2.2.1
theorem dX1_hang_72 : decode cX1_hang 72 = .ok (.iload_n 2, 1) := dB_36_0_46.2.2.2.2
theorem dB_36_0_47 : ((((decode cX1_hang 73 = .ok (.if_icmp .ne 11, 3)) ∧ (decode cX1_hang 76 = .ok (.aload_n 0, 1))) ∧ ((decode cX1_hang 77 = .ok (.getfield 9, 3)) ∧ (decode cX1_hang 80 = .ok (.iload 5, 2)))) ∧ (((decode cX1_hang 82 = .ok (.iload_n 1, 1)) ∧ (decode cX1_hang 83 = .ok (.iastore, 1))) ∧ ((decode cX1_hang 84 = .ok (.iinc 5 1, 3)) ∧ (decode cX1_hang 87 = .ok (.goto (-48), 3))))) ∧ ((((decode cX1_hang 90 = .ok (.iload_n 2, 1)) ∧ (decode cX1_hang 91 = .ok (.ifCond .eq 56, 3))) ∧ ((decode cX1_hang 94 = .ok (.iload 4, 2)) ∧ (decode cX1_hang 96 = .ok (.aload_n 0, 1)))) ∧ (((decode cX1_hang 97 = .ok (.getfield 9, 3)) ∧ (decode cX1_hang 100 = .ok (.iload_n 2, 1))) ∧ ((decode cX1_hang 101 = .ok (.iaload, 1)) ∧ (decode cX1_hang 102 = .ok (.ishr, 1))))) := by first | decide +kernel | ((repeat' apply And.intro) <;> decide +kernel)
theorem dX1_hang_73 : decode cX1_hang 73 = .ok (.if_icmp .ne 11, 3) := dB_36_0_47.1.1.1.1
theorem dX1_hang_76 : decode cX1_hang 76 = .ok (.aload_n 0, 1) := dB_36_0_47.1.1.1.2
theorem dX1_hang_77 : decode cX1_hang 77 = .ok (.getfield 9, 3) := dB_36_0_47.1.1.2.1
theorem dX1_hang_80 : decode cX1_hang 80 = .ok (.iload 5, 2) := dB_36_0_47.1.1.2.2
theorem dX1_hang_82 : decode cX1_hang 82 = .ok (.iload_n 1, 1) := dB_36_0_47.1.2.1.1
theorem dX1_hang_83 : decode cX1_hang 83 = .ok (.iastore, 1) := dB_36_0_47.1.2.1.2
theorem dX1_hang_84 : decode cX1_hang 84 = .ok (.iinc 5 1, 3) := dB_36_0_47.1.2.2.1
theorem dX1_hang_87 : decode cX1_hang 87 = .ok (.goto (-48), 3) := dB_36_0_47.1.2.2.2
theorem dX1_hang_90 : decode cX1_hang 90 = .ok (.iload_n 2, 1) := dB_36_0_47.2.1.1.1
theorem dX1_hang_91 : decode cX1_hang 91 = .ok (.ifCond .eq 56, 3) := dB_36_0_47.2.1.1.2
theorem dX1_hang_94 : decode cX1_hang 94 = .ok (.iload 4, 2) := dB_36_0_47.2.1.2.1
theorem dX1_hang_96 : decode cX1_hang 96 = .ok (.aload_n 0, 1) := dB_36_0_47.2.1.2.2
theorem dX1_hang_97 : decode cX1_hang 97 = .ok (.getfield 9, 3) := dB_36_0_47.2.2.1.1
theorem dX1_hang_100 : decode cX1_hang 100 = .ok (.iload_n 2, 1) := dB_36_0_47.2.2.1.2
theorem dX1_hang_101 : decode cX1_hang 101 = .ok (.iaload, 1) := dB_36_0_47.2.2.2.1
theorem dX1_hang_102 : decode cX1_hang 102 = .ok (.ishr, 1) := dB_36_0_47.2.2.2.2
theorem dB_36_0_48 : ((((decode cX1_hang 103 = .ok (.iconst 1, 1)) ∧ (decode cX1_hang 104 = .ok (.iand, 1))) ∧ ((decode cX1_hang 105 = .ok (.iconst 1, 1)) ∧ (decode cX1_hang 106 = .ok (.if_icmp .ne 41, 3)))) ∧ (((decode cX1_hang 109 = .ok (.aload_n 0, 1)) ∧ (decode cX1_hang 110 = .ok (.getfield 9, 3))) ∧ ((decode cX1_hang 113 = .ok (.iload_n 1, 1)) ∧ (decode cX1_hang 114 = .ok (.aload_n 0, 1))))) ∧ ((((decode cX1_hang 115 = .ok (.getfield 9, 3)) ∧ (decode cX1_hang 118 = .ok (.iload_n 2, 1))) ∧ ((decode cX1_hang 119 = .ok (.iaload, 1)) ∧ (decode cX1_hang 120 = .ok (.iastore, 1)))) ∧ (((decode cX1_hang 121 = .ok (.aload_n 0, 1)) ∧ (decode cX1_hang 122 = .ok (.getfield 15, 3))) ∧ ((decode cX1_hang 125 = .ok (.iload_n 1, 1)) ∧ (decode cX1_hang 126 = .ok (.aload_n 0, 1))))) := by first | decide +kernel | ((repeat' apply And.intro) <;> decide +kernel)
theorem dX1_hang_103 : decode cX1_hang 103 = .ok (.iconst 1, 1) := dB_36_0_48.1.1.1.1
theorem dX1_hang_104 : decode cX1_hang 104 = .ok (.iand, 1) := dB_36_0_48.1.1.1.2
theorem dX1_hang_105 : decode cX1_hang 105 = .ok (.iconst 1, 1) := dB_36_0_48.1.1.2.1
theorem dX1_hang_106 : decode cX1_hang 106 = .ok (.if_icmp .ne 41, 3) := dB_36_0_48.1.1.2.2
theorem dX1_hang_109 : decode cX1_hang 109 = .ok (.aload_n 0, 1) := dB_36_0_48.1.2.1.1
theorem dX1_hang_110 : decode cX1_hang 110 = .ok (.getfield 9, 3) := dB_36_0_48.1.2.1.2
theorem dX1_hang_113 : decode cX1_hang 113 = .ok (.iload_n 1, 1) := dB_36_0_48.1.2.2.1
theorem dX1_hang_114 : decode cX1_hang 114 = .ok (.aload_n 0, 1) := dB_36_0_48.1.2.2.2
theorem dX1_hang_115 : decode cX1_hang 115 = .ok (.getfield 9, 3) := dB_36_0_48.2.1.1.1
theorem dX1_hang_118 : decode cX1_hang 118 = .ok (.iload_n 2, 1) := dB_36_0_48.2.1.1.2
theorem dX1_hang_119 : decode cX1_hang 119 = .ok (.iaload, 1) := dB_36_0_48.2.1.2.1
theorem dX1_hang_120 : decode cX1_hang 120 = .ok (.iastore, 1) := dB_36_0_48.2.1.2.2
theorem dX1_hang_121 : decode cX1_hang 121 = .ok (.aload_n 0, 1) := dB_36_0_48.2.2.1.1
theorem dX1_hang_122 : decode cX1_hang 122 = .ok (.getfield 15, 3) := dB_36_0_48.2.2.1.2
theorem dX1_hang_125 : decode cX1_hang 125 = .ok (.iload_n 1, 1) := dB_36_0_48.2.2.2.1
theorem dX1_hang_126 : decode cX1_hang 126 = .ok (.aload_n 0, 1) := dB_36_0_48.2.2.2.2
theorem dB_36_0_49 : ((((decode cX1_hang 127 = .ok (.getfield 15, 3)) ∧ (decode cX1_hang 130 = .ok (.iload_n 2, 1))) ∧ ((decode cX1_hang 131 = .ok (.iaload, 1)) ∧ (decode cX1_hang 132 = .ok (.iastore, 1)))) ∧ (((decode cX1_hang 133 = .ok (.aload_n 0, 1)) ∧ (decode cX1_hang 134 = .ok (.getfield 9, 3))) ∧ ((decode cX1_hang 137 = .ok (.iload_n 2, 1)) ∧ (decode cX1_hang 138 = .ok (.iload_n 1, 1))))) ∧ ((((decode cX1_hang 139 = .ok (.iastore, 1)) ∧ (decode cX1_hang 140 = .ok (.aload_n 0, 1))) ∧ ((decode cX1_hang 141 = .ok (.getfield 15, 3)) ∧ (decode cX1_hang 144 = .ok (.iload_n 2, 1)))) ∧ (((decode cX1_hang 145 = .ok (.iload_n 3, 1)) ∧ (decode cX1_hang 146 = .ok (.iastore, 1))) ∧ ((decode cX1_hang 147 = .ok (.return_, 1)) ∧ (decode cX1_leastOnWay 0 = .ok (.ldc 54, 2))))) := by first | decide +kernel | ((repeat' apply And.intro) <;> decide +kernel)
theorem dX1_hang_127 : decode cX1_hang 127 = .ok (.getfield 15, 3) := dB_36_0_49.1.1.1.1
theorem dX1_hang_130 : decode cX1_hang 130 = .ok (.iload_n 2, 1) := dB_36_0_49.1.1.1.2
theorem dX1_hang_131 : decode cX1_hang 131 = .ok (.iaload, 1) := dB_36_0_49.1.1.2.1
theorem dX1_hang_132 : decode cX1_hang 132 = .ok (.iastore, 1) := dB_36_0_49.1.1.2.2
theorem dX1_hang_133 : decode cX1_hang 133 = .ok (.aload_n 0, 1) := dB_36_0_49.1.2.1.1
theorem dX1_hang_134 : decode cX1_hang 134 = .ok (.getfield 9, 3) := dB_36_0_49.1.2.1.2
theorem dX1_hang_137 : decode cX1_hang 137 = .ok (.iload_n 2, 1) := dB_36_0_49.1.2.2.1
theorem dX1_hang_138 : decode cX1_hang 138 = .ok (.iload_n 1, 1) := dB_36_0_49.1.2.2.2
theorem dX1_hang_139 : decode cX1_hang 139 = .ok (.iastore, 1) := dB_36_0_49.2.1.1.1
theorem dX1_hang_140 : decode cX1_hang 140 = .ok (.aload_n 0, 1) := dB_36_0_49.2.1.1.2
theorem dX1_hang_141 : decode cX1_hang 141 = .ok (.getfield 15, 3) := dB_36_0_49.2.1.2.1
theorem dX1_hang_144 : decode cX1_hang 144 = .ok (.iload_n 2, 1) := dB_36_0_49.2.1.2.2
theorem dX1_hang_145 : decode cX1_hang 145 = .ok (.iload_n 3, 1) := dB_36_0_49.2.2.1.1
theorem dX1_hang_146 : decode cX1_hang 146 = .ok (.iastore, 1) := dB_36_0_49.2.2.1.2
theorem dX1_hang_147 : decode cX1_hang 147 = .ok (.return_, 1) := dB_36_0_49.2.2.2.1
theorem dX1_leastOnWay_0 : decode cX1_leastOnWay 0 = .ok (.ldc 54, 2) := dB_36_0_49.2.2.2.2
theorem dB_36_0_50 : ((((decode cX1_leastOnWay 2 = .ok (.istore_n 3, 1)) ∧ (decode cX1_leastOnWay 3 = .ok (.iload_n 1, 1))) ∧ ((decode cX1_leastOnWay 4 = .ok (.istore 4, 2)) ∧ (decode cX1_leastOnWay 6 = .ok (.iload_n 2, 1)))) ∧ (((decode cX1_leastOnWay 7 = .ok (.istore 5, 2)) ∧ (decode cX1_leastOnWay 9 = .ok (.aload_n 0, 1))) ∧ ((decode cX1_leastOnWay 10 = .ok (.iload_n 1, 1)) ∧ (decode cX1_leastOnWay 11 = .ok (.invokevirtual 55, 3))))) ∧ ((((decode cX1_leastOnWay 14 = .ok (.istore 6, 2)) ∧ (decode cX1_leastOnWay 16 = .ok (.aload_n 0, 1))) ∧ ((decode cX1_leastOnWay 17 = .ok (.iload_n 2, 1)) ∧ (decode cX1_leastOnWay 18 = .ok (.invokevirtual 55, 3)))) ∧ (((decode cX1_leastOnWay 21 = .ok (.istore 7, 2)) ∧ (decode cX1_leastOnWay 23 = .ok (.iconst 0, 1))) ∧ ((decode cX1_leastOnWay 24 = .ok (.istore 8, 2)) ∧ (decode cX1_leastOnWay 26 = .ok (.iload 8, 2))))) := by first | decide +kernel | ((repeat' apply And.intro) <;> decide +kernel)
theorem dX1_leastOnWay_2 : decode cX1_leastOnWay 2 = .ok (.istore_n 3, 1) := dB_36_0_50.1.1.1.1
theorem dX1_leastOnWay_3 : decode cX1_leastOnWay 3 = .ok (.iload_n 1, 1) := dB_36_0_50.1.1.1.2
theorem dX1_leastOnWay_4 : decode cX1_leastOnWay 4 = .ok (.istore 4, 2) := dB_36_0_50.1.1.2.1
theorem dX1_leastOnWay_6 : decode cX1_leastOnWay 6 = .ok (.iload_n 2, 1) := dB_36_0_50.1.1.2.2
theorem dX1_leastOnWay_7 : decode cX1_leastOnWay 7 = .ok (.istore 5, 2) := dB_36_0_50.1.2.1.1
theorem dX1_leastOnWay_9 : decode cX1_leastOnWay 9 = .ok (.aload_n 0, 1) := dB_36_0_50.1.2.1.2
theorem dX1_leastOnWay_10 : decode cX1_leastOnWay 10 = .ok (.iload_n 1, 1) := dB_36_0_50.1.2.2.1
theorem dX1_leastOnWay_11 : decode cX1_leastOnWay 11 = .ok (.invokevirtual 55, 3) := dB_36_0_50.1.2.2.2
theorem dX1_leastOnWay_14 : decode cX1_leastOnWay 14 = .ok (.istore 6, 2) := dB_36_0_50.2.1.1.1
theorem dX1_leastOnWay_16 : decode cX1_leastOnWay 16 = .ok (.aload_n 0, 1) := dB_36_0_50.2.1.1.2
theorem dX1_leastOnWay_17 : decode cX1_leastOnWay 17 = .ok (.iload_n 2, 1) := dB_36_0_50.2.1.2.1
theorem dX1_leastOnWay_18 : decode cX1_leastOnWay 18 = .ok (.invokevirtual 55, 3) := dB_36_0_50.2.1.2.2
theorem dX1_leastOnWay_21 : decode cX1_leastOnWay 21 = .ok (.istore 7, 2) := dB_36_0_50.2.2.1.1
theorem dX1_leastOnWay_23 : decode cX1_leastOnWay 23 = .ok (.iconst 0, 1) := dB_36_0_50.2.2.1.2
theorem dX1_leastOnWay_24 : decode cX1_leastOnWay 24 = .ok (.istore 8, 2) := dB_36_0_50.2.2.2.1
theorem dX1_leastOnWay_26 : decode cX1_leastOnWay 26 = .ok (.iload 8, 2) := dB_36_0_50.2.2.2.2
theorem dB_36_0_51 : ((((decode cX1_leastOnWay 28 = .ok (.bipush 24, 2)) ∧ (decode cX1_leastOnWay 30 = .ok (.if_icmp .ge 74, 3))) ∧ ((decode cX1_leastOnWay 33 = .ok (.iload 4, 2)) ∧ (decode cX1_leastOnWay 35 = .ok (.iload 5, 2)))) ∧ (((decode cX1_leastOnWay 37 = .ok (.if_icmp .eq 67, 3)) ∧ (decode cX1_leastOnWay 40 = .ok (.iload 6, 2))) ∧ ((decode cX1_leastOnWay 42 = .ok (.iload 7, 2)) ∧ (decode cX1_leastOnWay 44 = .ok (.if_icmp .lt 30, 3))))) ∧ ((((decode cX1_leastOnWay 47 = .ok (.iload_n 3, 1)) ∧ (decode cX1_leastOnWay 48 = .ok (.aload_n 0, 1))) ∧ ((decode cX1_leastOnWay 49 = .ok (.getfield 15, 3)) ∧ (decode cX1_leastOnWay 52 = .ok (.iload 4, 2)))) ∧ (((decode cX1_leastOnWay 54 = .ok (.iaload, 1)) ∧ (decode cX1_leastOnWay 55 = .ok (.invokestatic 58, 3))) ∧ ((decode cX1_leastOnWay 58 = .ok (.istore_n 3, 1)) ∧ (decode cX1_leastOnWay 59 = .ok (.aload_n 0, 1))))) := by first | decide +kernel | ((repeat' apply And.intro) <;> decide +kernel)
theorem dX1_leastOnWay_28 : decode cX1_leastOnWay 28 = .ok (.bipush 24, 2) := dB_36_0_51.1.1.1.1
theorem dX1_leastOnWay_30 : decode cX1_leastOnWay 30 = .ok (.if_icmp .ge 74, 3) := dB_36_0_51.1.1.1.2
theorem dX1_leastOnWay_33 : decode cX1_leastOnWay 33 = .ok (.iload 4, 2) := dB_36_0_51.1.1.2.1
theorem dX1_leastOnWay_35 : decode cX1_leastOnWay 35 = .ok (.iload 5, 2) := dB_36_0_51.1.1.2.2
theorem dX1_leastOnWay_37 : decode cX1_leastOnWay 37 = .ok (.if_icmp .eq 67, 3) := dB_36_0_51.1.2.1.1
theorem dX1_leastOnWay_40 : decode cX1_leastOnWay 40 = .ok (.iload 6, 2) := dB_36_0_51.1.2.1.2
theorem dX1_leastOnWay_42 : decode cX1_leastOnWay 42 = .ok (.iload 7, 2) := dB_36_0_51.1.2.2.1
theorem dX1_leastOnWay_44 : decode cX1_leastOnWay 44 = .ok (.if_icmp .lt 30, 3) := dB_36_0_51.1.2.2.2
theorem dX1_leastOnWay_47 : decode cX1_leastOnWay 47 = .ok (.iload_n 3, 1) := dB_36_0_51.2.1.1.1
theorem dX1_leastOnWay_48 : decode cX1_leastOnWay 48 = .ok (.aload_n 0, 1) := dB_36_0_51.2.1.1.2
theorem dX1_leastOnWay_49 : decode cX1_leastOnWay 49 = .ok (.getfield 15, 3) := dB_36_0_51.2.1.2.1
theorem dX1_leastOnWay_52 : decode cX1_leastOnWay 52 = .ok (.iload 4, 2) := dB_36_0_51.2.1.2.2
theorem dX1_leastOnWay_54 : decode cX1_leastOnWay 54 = .ok (.iaload, 1) := dB_36_0_51.2.2.1.1
theorem dX1_leastOnWay_55 : decode cX1_leastOnWay 55 = .ok (.invokestatic 58, 3) := dB_36_0_51.2.2.1.2
theorem dX1_leastOnWay_58 : decode cX1_leastOnWay 58 = .ok (.istore_n 3, 1) := dB_36_0_51.2.2.2.1
theorem dX1_leastOnWay_59 : decode cX1_leastOnWay 59 = .ok (.aload_n 0, 1) := dB_36_0_51.2.2.2.2
theorem dB_36_0_52 : ((((decode cX1_leastOnWay 60 = .ok (.getfield 9, 3)) ∧ (decode cX1_leastOnWay 63 = .ok (.iload 4, 2))) ∧ ((decode cX1_leastOnWay 65 = .ok (.iaload, 1)) ∧ (decode cX1_leastOnWay 66 = .ok (.istore 4, 2)))) ∧ (((decode cX1_leastOnWay 68 = .ok (.iinc 6 (-1), 3)) ∧ (decode cX1_leastOnWay 71 = .ok (.goto 27, 3))) ∧ ((decode cX1_leastOnWay 74 = .ok (.iload_n 3, 1)) ∧ (decode cX1_leastOnWay 75 = .ok (.aload_n 0, 1))))) ∧ ((((decode cX1_leastOnWay 76 = .ok (.getfield 15, 3)) ∧ (decode cX1_leastOnWay 79 = .ok (.iload 5, 2))) ∧ ((decode cX1_leastOnWay 81 = .ok (.iaload, 1)) ∧ (decode cX1_leastOnWay 82 = .ok (.invokestatic 58, 3)))) ∧ (((decode cX1_leastOnWay 85 = .ok (.istore_n 3, 1)) ∧ (decode cX1_leastOnWay 86 = .ok (.aload_n 0, 1))) ∧ ((decode cX1_leastOnWay 87 = .ok (.getfield 9, 3)) ∧ (decode cX1_leastOnWay 90 = .ok (.iload 5, 2))))) := by first | decide +kernel | ((repeat' apply And.intro) <;> decide +kernel)
theorem dX1_leastOnWay_60 : decode cX1_leastOnWay 60 = .ok (.getfield 9, 3) := dB_36_0_52.1.1.1.1
theorem dX1_leastOnWay_63 : decode cX1_leastOnWay 63 = .ok (.iload 4, 2) := dB_36_0_52.1.1.1.2
theorem dX1_leastOnWay_65 : decode cX1_leastOnWay 65 = .ok (.iaload, 1) := dB_36_0_52.1.1.2.1
theorem dX1_leastOnWay_66 : decode cX1_leastOnWay 66 = .ok (.istore 4, 2) := dB_36_0_52.1.1.2.2
theorem dX1_leastOnWay_68 : decode cX1_leastOnWay 68 = .ok (.iinc 6 (-1), 3) := dB_36_0_52.1.2.1.1
theorem dX1_leastOnWay_71 : decode cX1_leastOnWay 71 = .ok (.goto 27, 3) := dB_36_0_52.1.2.1.2
theorem dX1_leastOnWay_74 : decode cX1_leastOnWay 74 = .ok (.iload_n 3, 1) := dB_36_0_52.1.2.2.1
theorem dX1_leastOnWay_75 : decode cX1_leastOnWay 75 = .ok (.aload_n 0, 1) := dB_36_0_52.1.2.2.2
theorem dX1_leastOnWay_76 : decode cX1_leastOnWay 76 = .ok (.getfield 15, 3) := dB_36_0_52.2.1.1.1
theorem dX1_leastOnWay_79 : decode cX1_leastOnWay 79 = .ok (.iload 5, 2) := dB_36_0_52.2.1.1.2
theorem dX1_leastOnWay_81 : decode cX1_leastOnWay 81 = .ok (.iaload, 1) := dB_36_0_52.2.1.2.1
theorem dX1_leastOnWay_82 : decode cX1_leastOnWay 82 = .ok (.invokestatic 58, 3) := dB_36_0_52.2.1.2.2
theorem dX1_leastOnWay_85 : decode cX1_leastOnWay 85 = .ok (.istore_n 3, 1) := dB_36_0_52.2.2.1.1
theorem dX1_leastOnWay_86 : decode cX1_leastOnWay 86 = .ok (.aload_n 0, 1) := dB_36_0_52.2.2.1.2
theorem dX1_leastOnWay_87 : decode cX1_leastOnWay 87 = .ok (.getfield 9, 3) := dB_36_0_52.2.2.2.1
theorem dX1_leastOnWay_90 : decode cX1_leastOnWay 90 = .ok (.iload 5, 2) := dB_36_0_52.2.2.2.2
theorem dB_36_0_53 : ((((decode cX1_leastOnWay 92 = .ok (.iaload, 1)) ∧ (decode cX1_leastOnWay 93 = .ok (.istore 5, 2))) ∧ ((decode cX1_leastOnWay 95 = .ok (.iinc 7 (-1), 3)) ∧ (decode cX1_leastOnWay 98 = .ok (.iinc 8 1, 3)))) ∧ (((decode cX1_leastOnWay 101 = .ok (.goto (-75), 3)) ∧ (decode cX1_leastOnWay 104 = .ok (.iload_n 3, 1))) ∧ ((decode cX1_leastOnWay 105 = .ok (.ireturn, 1)) ∧ (decode cX1_stepsToRoot 0 = .ok (.iconst 0, 1))))) ∧ ((((decode cX1_stepsToRoot 1 = .ok (.istore_n 2, 1)) ∧ (decode cX1_stepsToRoot 2 = .ok (.iload_n 1, 1))) ∧ ((decode cX1_stepsToRoot 3 = .ok (.istore_n 3, 1)) ∧ (decode cX1_stepsToRoot 4 = .ok (.iload_n 3, 1)))) ∧ (((decode cX1_stepsToRoot 5 = .ok (.ifCond .eq 22, 3)) ∧ (decode cX1_stepsToRoot 8 = .ok (.iload_n 2, 1))) ∧ ((decode cX1_stepsToRoot 9 = .ok (.bipush 12, 2)) ∧ (decode cX1_stepsToRoot 11 = .ok (.if_icmp .ge 16, 3))))) := by first | decide +kernel | ((repeat' apply And.intro) <;> decide +kernel)
theorem dX1_leastOnWay_92 : decode cX1_leastOnWay 92 = .ok (.iaload, 1) := dB_36_0_53.1.1.1.1
theorem dX1_leastOnWay_93 : decode cX1_leastOnWay 93 = .ok (.istore 5, 2) := dB_36_0_53.1.1.1.2
theorem dX1_leastOnWay_95 : decode cX1_leastOnWay 95 = .ok (.iinc 7 (-1), 3) := dB_36_0_53.1.1.2.1
theorem dX1_leastOnWay_98 : decode cX1_leastOnWay 98 = .ok (.iinc 8 1, 3) := dB_36_0_53.1.1.2.2
theorem dX1_leastOnWay_101 : decode cX1_leastOnWay 101 = .ok (.goto (-75), 3) := dB_36_0_53.1.2.1.1
theorem dX1_leastOnWay_104 : decode cX1_leastOnWay 104 = .ok (.iload_n 3, 1) := dB_36_0_53.1.2.1.2
theorem dX1_leastOnWay_105 : decode cX1_leastOnWay 105 = .ok (.ireturn, 1) := dB_36_0_53.1.2.2.1
theorem dX1_stepsToRoot_0 : decode cX1_stepsToRoot 0 = .ok (.iconst 0, 1) := dB_36_0_53.1.2.2.2
theorem dX1_stepsToRoot_1 : decode cX1_stepsToRoot 1 = .ok (.istore_n 2, 1) := dB_36_0_53.2.1.1.1
theorem dX1_stepsToRoot_2 : decode cX1_stepsToRoot 2 = .ok (.iload_n 1, 1) := dB_36_0_53.2.1.1.2
theorem dX1_stepsToRoot_3 : decode cX1_stepsToRoot 3 = .ok (.istore_n 3, 1) := dB_36_0_53.2.1.2.1
theorem dX1_stepsToRoot_4 : decode cX1_stepsToRoot 4 = .ok (.iload_n 3, 1) := dB_36_0_53.2.1.2.2
theorem dX1_stepsToRoot_5 : decode cX1_stepsToRoot 5 = .ok (.ifCond .eq 22, 3) := dB_36_0_53.2.2.1.1
theorem dX1_stepsToRoot_8 : decode cX1_stepsToRoot 8 = .ok (.iload_n 2, 1) := dB_36_0_53.2.2.1.2
theorem dX1_stepsToRoot_9 : decode cX1_stepsToRoot 9 = .ok (.bipush 12, 2) := dB_36_0_53.2.2.2.1
theorem dX1_stepsToRoot_11 : decode cX1_stepsToRoot 11 = .ok (.if_icmp .ge 16, 3) := dB_36_0_53.2.2.2.2
theorem dB_36_0_54 : ((((decode cX1_stepsToRoot 14 = .ok (.iinc 2 1, 3)) ∧ (decode cX1_stepsToRoot 17 = .ok (.aload_n 0, 1))) ∧ ((decode cX1_stepsToRoot 18 = .ok (.getfield 9, 3)) ∧ (decode cX1_stepsToRoot 21 = .ok (.iload_n 3, 1)))) ∧ (((decode cX1_stepsToRoot 22 = .ok (.iaload, 1)) ∧ (decode cX1_stepsToRoot 23 = .ok (.istore_n 3, 1))) ∧ ((decode cX1_stepsToRoot 24 = .ok (.goto (-20), 3)) ∧ (decode cX1_stepsToRoot 27 = .ok (.iload_n 2, 1))))) ∧ ((((decode cX1_stepsToRoot 28 = .ok (.ireturn, 1)) ∧ (decode cX1_leastNumber 0 = .ok (.ldc 54, 2))) ∧ ((decode cX1_leastNumber 2 = .ok (.istore_n 1, 1)) ∧ (decode cX1_leastNumber 3 = .ok (.iconst 1, 1)))) ∧ (((decode cX1_leastNumber 4 = .ok (.istore_n 2, 1)) ∧ (decode cX1_leastNumber 5 = .ok (.iload_n 2, 1))) ∧ ((decode cX1_leastNumber 6 = .ok (.aload_n 0, 1)) ∧ (decode cX1_leastNumber 7 = .ok (.getfield 18, 3))))) := by first | decide +kernel | ((repeat' apply And.intro) <;> decide +kernel)
theorem dX1_stepsToRoot_14 : decode cX1_stepsToRoot 14 = .ok (.iinc 2 1, 3) := dB_36_0_54.1.1.1.1
theorem dX1_stepsToRoot_17 : decode cX1_stepsToRoot 17 = .ok (.aload_n 0, 1) := dB_36_0_54.1.1.1.2
theorem dX1_stepsToRoot_18 : decode cX1_stepsToRoot 18 = .ok (.getfield 9, 3) := dB_36_0_54.1.1.2.1
theorem dX1_stepsToRoot_21 : decode cX1_stepsToRoot 21 = .ok (.iload_n 3, 1) := dB_36_0_54.1.1.2.2
theorem dX1_stepsToRoot_22 : decode cX1_stepsToRoot 22 = .ok (.iaload, 1) := dB_36_0_54.1.2.1.1
theorem dX1_stepsToRoot_23 : decode cX1_stepsToRoot 23 = .ok (.istore_n 3, 1) := dB_36_0_54.1.2.1.2
theorem dX1_stepsToRoot_24 : decode cX1_stepsToRoot 24 = .ok (.goto (-20), 3) := dB_36_0_54.1.2.2.1
theorem dX1_stepsToRoot_27 : decode cX1_stepsToRoot 27 = .ok (.iload_n 2, 1) := dB_36_0_54.1.2.2.2
theorem dX1_stepsToRoot_28 : decode cX1_stepsToRoot 28 = .ok (.ireturn, 1) := dB_36_0_54.2.1.1.1
theorem dX1_leastNumber_0 : decode cX1_leastNumber 0 = .ok (.ldc 54, 2) := dB_36_0_54.2.1.1.2
theorem dX1_leastNumber_2 : decode cX1_leastNumber 2 = .ok (.istore_n 1, 1) := dB_36_0_54.2.1.2.1
theorem dX1_leastNumber_3 : decode cX1_leastNumber 3 = .ok (.iconst 1, 1) := dB_36_0_54.2.1.2.2
theorem dX1_leastNumber_4 : decode cX1_leastNumber 4 = .ok (.istore_n 2, 1) := dB_36_0_54.2.2.1.1
theorem dX1_leastNumber_5 : decode cX1_leastNumber 5 = .ok (.iload_n 2, 1) := dB_36_0_54.2.2.1.2
theorem dX1_leastNumber_6 : decode cX1_leastNumber 6 = .ok (.aload_n 0, 1) := dB_36_0_54.2.2.2.1
theorem dX1_leastNumber_7 : decode cX1_leastNumber 7 = .ok (.getfield 18, 3) := dB_36_0_54.2.2.2.2
theorem dB_36_0_55 : ((((decode cX1_leastNumber 10 = .ok (.getfield 34, 3)) ∧ (decode cX1_leastNumber 13 = .ok (.getfield 38, 3))) ∧ ((decode cX1_leastNumber 16 = .ok (.if_icmp .ge 20, 3)) ∧ (decode cX1_leastNumber 19 = .ok (.iload_n 1, 1)))) ∧ (((decode cX1_leastNumber 20 = .ok (.aload_n 0, 1)) ∧ (decode cX1_leastNumber 21 = .ok (.getfield 15, 3))) ∧ ((decode cX1_leastNumber 24 = .ok (.iload_n 2, 1)) ∧ (decode cX1_leastNumber 25 = .ok (.iaload, 1))))) ∧ ((((decode cX1_leastNumber 26 = .ok (.invokestatic 58, 3)) ∧ (decode cX1_leastNumber 29 = .ok (.istore_n 1, 1))) ∧ ((decode cX1_leastNumber 30 = .ok (.iinc 2 1, 3)) ∧ (decode cX1_leastNumber 33 = .ok (.goto (-28), 3)))) ∧ (((decode cX1_leastNumber 36 = .ok (.iload_n 1, 1)) ∧ (decode cX1_leastNumber 37 = .ok (.ireturn, 1))) ∧ ((decode cX1_leastAlike 0 = .ok (.iconst 0, 1)) ∧ (decode cX1_leastAlike 1 = .ok (.istore_n 3, 1))))) := by first | decide +kernel | ((repeat' apply And.intro) <;> decide +kernel)
theorem dX1_leastNumber_10 : decode cX1_leastNumber 10 = .ok (.getfield 34, 3) := dB_36_0_55.1.1.1.1
theorem dX1_leastNumber_13 : decode cX1_leastNumber 13 = .ok (.getfield 38, 3) := dB_36_0_55.1.1.1.2
theorem dX1_leastNumber_16 : decode cX1_leastNumber 16 = .ok (.if_icmp .ge 20, 3) := dB_36_0_55.1.1.2.1
theorem dX1_leastNumber_19 : decode cX1_leastNumber 19 = .ok (.iload_n 1, 1) := dB_36_0_55.1.1.2.2
theorem dX1_leastNumber_20 : decode cX1_leastNumber 20 = .ok (.aload_n 0, 1) := dB_36_0_55.1.2.1.1
theorem dX1_leastNumber_21 : decode cX1_leastNumber 21 = .ok (.getfield 15, 3) := dB_36_0_55.1.2.1.2
theorem dX1_leastNumber_24 : decode cX1_leastNumber 24 = .ok (.iload_n 2, 1) := dB_36_0_55.1.2.2.1
theorem dX1_leastNumber_25 : decode cX1_leastNumber 25 = .ok (.iaload, 1) := dB_36_0_55.1.2.2.2
theorem dX1_leastNumber_26 : decode cX1_leastNumber 26 = .ok (.invokestatic 58, 3) := dB_36_0_55.2.1.1.1
theorem dX1_leastNumber_29 : decode cX1_leastNumber 29 = .ok (.istore_n 1, 1) := dB_36_0_55.2.1.1.2
theorem dX1_leastNumber_30 : decode cX1_leastNumber 30 = .ok (.iinc 2 1, 3) := dB_36_0_55.2.1.2.1
theorem dX1_leastNumber_33 : decode cX1_leastNumber 33 = .ok (.goto (-28), 3) := dB_36_0_55.2.1.2.2
theorem dX1_leastNumber_36 : decode cX1_leastNumber 36 = .ok (.iload_n 1, 1) := dB_36_0_55.2.2.1.1
theorem dX1_leastNumber_37 : decode cX1_leastNumber 37 = .ok (.ireturn, 1) := dB_36_0_55.2.2.1.2
theorem dX1_leastAlike_0 : decode cX1_leastAlike 0 = .ok (.iconst 0, 1) := dB_36_0_55.2.2.2.1
theorem dX1_leastAlike_1 : decode cX1_leastAlike 1 = .ok (.istore_n 3, 1) := dB_36_0_55.2.2.2.2
theorem dB_36_0_56 : ((decode cX1_leastAlike 2 = .ok (.iload_n 3, 1)) ∧ (decode cX1_leastAlike 3 = .ok (.iload_n 2, 1))) ∧ ((decode cX1_leastAlike 4 = .ok (.if_icmp .ge 21, 3)) ∧ (decode cX1_leastAlike 7 = .ok (.aload_n 0, 1))) := by first | decide +kernel | ((repeat' apply And.intro) <;> decide +kernel)
theorem dX1_leastAlike_2 : decode cX1_leastAlike 2 = .ok (.iload_n 3, 1) := dB_36_0_56.1.1
theorem dX1_leastAlike_3 : decode cX1_leastAlike 3 = .ok (.iload_n 2, 1) := dB_36_0_56.1.2
theorem dX1_leastAlike_4 : decode cX1_leastAlike 4 = .ok (.if_icmp .ge 21, 3) := dB_36_0_56.2.1
theorem dX1_leastAlike_7 : decode cX1_leastAlike 7 = .ok (.aload_n 0, 1) := dB_36_0_56.2.2
