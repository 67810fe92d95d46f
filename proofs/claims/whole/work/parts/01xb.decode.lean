theorem dX8_init_0 : decode cX8_init 0 = .ok (.aload_n 0, 1) := by decide +kernel
theorem dX8_init_1 : decode cX8_init 1 = .ok (.invokespecial 1, 3) := by decide +kernel
theorem dX8_init_4 : decode cX8_init 4 = .ok (.aload_n 0, 1) := by decide +kernel
theorem dX8_init_5 : decode cX8_init 5 = .ok (.sipush 240, 3) := by decide +kernel
theorem dX8_init_8 : decode cX8_init 8 = .ok (.newarray .int, 2) := by decide +kernel
theorem dX8_init_10 : decode cX8_init 10 = .ok (.putfield 7, 3) := by decide +kernel
theorem dX8_init_13 : decode cX8_init 13 = .ok (.aload_n 0, 1) := by decide +kernel
theorem dX8_init_14 : decode cX8_init 14 = .ok (.bipush 6, 2) := by decide +kernel
theorem dX8_init_16 : decode cX8_init 16 = .ok (.newarray .boolean, 2) := by decide +kernel
theorem dX8_init_18 : decode cX8_init 18 = .ok (.putfield 13, 3) := by decide +kernel
theorem dX8_init_21 : decode cX8_init 21 = .ok (.aload_n 0, 1) := by decide +kernel
theorem dX8_init_22 : decode cX8_init 22 = .ok (.bipush 6, 2) := by decide +kernel
theorem dX8_init_24 : decode cX8_init 24 = .ok (.newarray .int, 2) := by decide +kernel
theorem dX8_init_26 : decode cX8_init 26 = .ok (.putfield 17, 3) := by decide +kernel
theorem dX8_init_29 : decode cX8_init 29 = .ok (.aload_n 0, 1) := by decide +kernel
theorem dX8_init_30 : decode cX8_init 30 = .ok (.bipush 6, 2) := by decide +kernel
theorem dX8_init_32 : decode cX8_init 32 = .ok (.newarray .int, 2) := by decide +kernel
theorem dX8_init_34 : decode cX8_init 34 = .ok (.putfield 20, 3) := by decide +kernel
theorem dX8_init_37 : decode cX8_init 37 = .ok (.aload_n 0, 1) := by decide +kernel
theorem dX8_init_38 : decode cX8_init 38 = .ok (.bipush 6, 2) := by decide +kernel
theorem dX8_init_40 : decode cX8_init 40 = .ok (.newarray .int, 2) := by decide +kernel
theorem dX8_init_42 : decode cX8_init 42 = .ok (.putfield 23, 3) := by decide +kernel
theorem dX8_init_45 : decode cX8_init 45 = .ok (.aload_n 0, 1) := by decide +kernel
theorem dX8_init_46 : decode cX8_init 46 = .ok (.sipush 240, 3) := by decide +kernel
theorem dX8_init_49 : decode cX8_init 49 = .ok (.newarray .long, 2) := by decide +kernel
theorem dX8_init_51 : decode cX8_init 51 = .ok (.putfield 26, 3) := by decide +kernel
theorem dX8_init_54 : decode cX8_init 54 = .ok (.aload_n 0, 1) := by decide +kernel
theorem dX8_init_55 : decode cX8_init 55 = .ok (.iconst 3, 1) := by decide +kernel
theorem dX8_init_56 : decode cX8_init 56 = .ok (.putfield 30, 3) := by decide +kernel
theorem dX8_init_59 : decode cX8_init 59 = .ok (.aload_n 0, 1) := by decide +kernel
theorem dX8_init_60 : decode cX8_init 60 = .ok (.iconst 4, 1) := by decide +kernel
theorem dX8_init_61 : decode cX8_init 61 = .ok (.putfield 34, 3) := by decide +kernel
theorem dX8_init_64 : decode cX8_init 64 = .ok (.aload_n 0, 1) := by decide +kernel
theorem dX8_init_65 : decode cX8_init 65 = .ok (.iconst 2, 1) := by decide +kernel
theorem dX8_init_66 : decode cX8_init 66 = .ok (.putfield 37, 3) := by decide +kernel
theorem dX8_init_69 : decode cX8_init 69 = .ok (.aload_n 0, 1) := by decide +kernel
theorem dX8_init_70 : decode cX8_init 70 = .ok (.bipush 8, 2) := by decide +kernel
theorem dX8_init_72 : decode cX8_init 72 = .ok (.putfield 40, 3) := by decide +kernel
theorem dX8_init_75 : decode cX8_init 75 = .ok (.aload_n 0, 1) := by decide +kernel
theorem dX8_init_76 : decode cX8_init 76 = .ok (.iconst (-1), 1) := by decide +kernel
theorem dX8_init_77 : decode cX8_init 77 = .ok (.putfield 43, 3) := by decide +kernel
theorem dX8_init_80 : decode cX8_init 80 = .ok (.aload_n 0, 1) := by decide +kernel
theorem dX8_init_81 : decode cX8_init 81 = .ok (.iconst 5, 1) := by decide +kernel
theorem dX8_init_82 : decode cX8_init 82 = .ok (.newarray .long, 2) := by decide +kernel
theorem dX8_init_84 : decode cX8_init 84 = .ok (.dup, 1) := by decide +kernel
theorem dX8_init_85 : decode cX8_init 85 = .ok (.iconst 0, 1) := by decide +kernel
theorem dX8_init_86 : decode cX8_init 86 = .ok (.ldc2_w 46, 3) := by decide +kernel
theorem dX8_init_89 : decode cX8_init 89 = .ok (.lastore, 1) := by decide +kernel
theorem dX8_init_90 : decode cX8_init 90 = .ok (.dup, 1) := by decide +kernel
theorem dX8_init_91 : decode cX8_init 91 = .ok (.iconst 1, 1) := by decide +kernel
theorem dX8_init_92 : decode cX8_init 92 = .ok (.ldc2_w 48, 3) := by decide +kernel
theorem dX8_init_95 : decode cX8_init 95 = .ok (.lastore, 1) := by decide +kernel
theorem dX8_init_96 : decode cX8_init 96 = .ok (.dup, 1) := by decide +kernel
theorem dX8_init_97 : decode cX8_init 97 = .ok (.iconst 2, 1) := by decide +kernel
theorem dX8_init_98 : decode cX8_init 98 = .ok (.ldc2_w 50, 3) := by decide +kernel
theorem dX8_init_101 : decode cX8_init 101 = .ok (.lastore, 1) := by decide +kernel
theorem dX8_init_102 : decode cX8_init 102 = .ok (.dup, 1) := by decide +kernel
theorem dX8_init_103 : decode cX8_init 103 = .ok (.iconst 3, 1) := by decide +kernel
theorem dX8_init_104 : decode cX8_init 104 = .ok (.ldc2_w 52, 3) := by decide +kernel
theorem dX8_init_107 : decode cX8_init 107 = .ok (.lastore, 1) := by decide +kernel
theorem dX8_init_108 : decode cX8_init 108 = .ok (.dup, 1) := by decide +kernel
theorem dX8_init_109 : decode cX8_init 109 = .ok (.iconst 4, 1) := by decide +kernel
theorem dX8_init_110 : decode cX8_init 110 = .ok (.ldc2_w 54, 3) := by decide +kernel
theorem dX8_init_113 : decode cX8_init 113 = .ok (.lastore, 1) := by decide +kernel
theorem dX8_init_114 : decode cX8_init 114 = .ok (.putfield 56, 3) := by decide +kernel
theorem dX8_init_117 : decode cX8_init 117 = .ok (.aload_n 0, 1) := by decide +kernel
theorem dX8_init_118 : decode cX8_init 118 = .ok (.sipush 240, 3) := by decide +kernel
theorem dX8_init_121 : decode cX8_init 121 = .ok (.newarray .boolean, 2) := by decide +kernel
theorem dX8_init_123 : decode cX8_init 123 = .ok (.putfield 59, 3) := by decide +kernel
theorem dX8_init_126 : decode cX8_init 126 = .ok (.aload_n 0, 1) := by decide +kernel
theorem dX8_init_127 : decode cX8_init 127 = .ok (.bipush 40, 2) := by decide +kernel
theorem dX8_init_129 : decode cX8_init 129 = .ok (.newarray .int, 2) := by decide +kernel
theorem dX8_init_131 : decode cX8_init 131 = .ok (.putfield 62, 3) := by decide +kernel
theorem dX8_init_134 : decode cX8_init 134 = .ok (.aload_n 0, 1) := by decide +kernel
theorem dX8_init_135 : decode cX8_init 135 = .ok (.sipush 240, 3) := by decide +kernel
theorem dX8_init_138 : decode cX8_init 138 = .ok (.newarray .boolean, 2) := by decide +kernel
theorem dX8_init_140 : decode cX8_init 140 = .ok (.putfield 65, 3) := by decide +kernel
theorem dX8_init_143 : decode cX8_init 143 = .ok (.aload_n 0, 1) := by decide +kernel
theorem dX8_init_144 : decode cX8_init 144 = .ok (.sipush 1600, 3) := by decide +kernel
theorem dX8_init_147 : decode cX8_init 147 = .ok (.newarray .int, 2) := by decide +kernel
theorem dX8_init_149 : decode cX8_init 149 = .ok (.putfield 68, 3) := by decide +kernel
theorem dX8_init_152 : decode cX8_init 152 = .ok (.aload_n 0, 1) := by decide +kernel
theorem dX8_init_153 : decode cX8_init 153 = .ok (.sipush 1600, 3) := by decide +kernel
theorem dX8_init_156 : decode cX8_init 156 = .ok (.newarray .int, 2) := by decide +kernel
theorem dX8_init_158 : decode cX8_init 158 = .ok (.putfield 71, 3) := by decide +kernel
theorem dX8_init_161 : decode cX8_init 161 = .ok (.aload_n 0, 1) := by decide +kernel
theorem dX8_init_162 : decode cX8_init 162 = .ok (.sipush 1600, 3) := by decide +kernel
theorem dX8_init_165 : decode cX8_init 165 = .ok (.newarray .int, 2) := by decide +kernel
theorem dX8_init_167 : decode cX8_init 167 = .ok (.putfield 74, 3) := by decide +kernel
theorem dX8_init_170 : decode cX8_init 170 = .ok (.aload_n 0, 1) := by decide +kernel
theorem dX8_init_171 : decode cX8_init 171 = .ok (.sipush 1600, 3) := by decide +kernel
theorem dX8_init_174 : decode cX8_init 174 = .ok (.newarray .int, 2) := by decide +kernel
theorem dX8_init_176 : decode cX8_init 176 = .ok (.putfield 77, 3) := by decide +kernel
theorem dX8_init_179 : decode cX8_init 179 = .ok (.aload_n 0, 1) := by decide +kernel
theorem dX8_init_180 : decode cX8_init 180 = .ok (.sipush 1600, 3) := by decide +kernel
theorem dX8_init_183 : decode cX8_init 183 = .ok (.newarray .int, 2) := by decide +kernel
theorem dX8_init_185 : decode cX8_init 185 = .ok (.putfield 80, 3) := by decide +kernel
theorem dX8_init_188 : decode cX8_init 188 = .ok (.aload_n 0, 1) := by decide +kernel
theorem dX8_init_189 : decode cX8_init 189 = .ok (.bipush 6, 2) := by decide +kernel
theorem dX8_init_191 : decode cX8_init 191 = .ok (.newarray .int, 2) := by decide +kernel
theorem dX8_init_193 : decode cX8_init 193 = .ok (.putfield 83, 3) := by decide +kernel
theorem dX8_init_196 : decode cX8_init 196 = .ok (.return_, 1) := by decide +kernel
theorem dX8_in_0 : decode cX8_in 0 = .ok (.iload_n 0, 1) := by decide +kernel
theorem dX8_in_1 : decode cX8_in 1 = .ok (.iload_n 1, 1) := by decide +kernel
theorem dX8_in_2 : decode cX8_in 2 = .ok (.if_icmp .lt 12, 3) := by decide +kernel
theorem dX8_in_5 : decode cX8_in 5 = .ok (.iload_n 0, 1) := by decide +kernel
theorem dX8_in_6 : decode cX8_in 6 = .ok (.iload_n 2, 1) := by decide +kernel
theorem dX8_in_7 : decode cX8_in 7 = .ok (.if_icmp .gt 7, 3) := by decide +kernel
theorem dX8_in_10 : decode cX8_in 10 = .ok (.iconst 1, 1) := by decide +kernel
theorem dX8_in_11 : decode cX8_in 11 = .ok (.goto 4, 3) := by decide +kernel
theorem dX8_in_14 : decode cX8_in 14 = .ok (.iconst 0, 1) := by decide +kernel
theorem dX8_in_15 : decode cX8_in 15 = .ok (.ireturn, 1) := by decide +kernel
theorem dX8_type_0 : decode cX8_type 0 = .ok (.iload_n 3, 1) := by decide +kernel
theorem dX8_type_1 : decode cX8_type 1 = .ok (.iconst 1, 1) := by decide +kernel
theorem dX8_type_2 : decode cX8_type 2 = .ok (.bipush 8, 2) := by decide +kernel
theorem dX8_type_4 : decode cX8_type 4 = .ok (.invokestatic 86, 3) := by decide +kernel
theorem dX8_type_7 : decode cX8_type 7 = .ok (.ifCond .ne 5, 3) := by decide +kernel
theorem dX8_type_10 : decode cX8_type 10 = .ok (.iconst (-1), 1) := by decide +kernel
theorem dX8_type_11 : decode cX8_type 11 = .ok (.ireturn, 1) := by decide +kernel
theorem dX8_type_12 : decode cX8_type 12 = .ok (.iload_n 3, 1) := by decide +kernel
theorem dX8_type_13 : decode cX8_type 13 = .ok (.iconst 1, 1) := by decide +kernel
theorem dX8_type_14 : decode cX8_type 14 = .ok (.isub, 1) := by decide +kernel
theorem dX8_type_15 : decode cX8_type 15 = .ok (.istore 4, 2) := by decide +kernel
theorem dX8_type_17 : decode cX8_type 17 = .ok (.iload 4, 2) := by decide +kernel
theorem dX8_type_19 : decode cX8_type 19 = .ok (.ifCond .lt 33, 3) := by decide +kernel
theorem dX8_type_22 : decode cX8_type 22 = .ok (.lload_n 1, 1) := by decide +kernel
theorem dX8_type_23 : decode cX8_type 23 = .ok (.bipush 8, 2) := by decide +kernel
theorem dX8_type_25 : decode cX8_type 25 = .ok (.iload 4, 2) := by decide +kernel
theorem dX8_type_27 : decode cX8_type 27 = .ok (.imul, 1) := by decide +kernel
theorem dX8_type_28 : decode cX8_type 28 = .ok (.lshr, 1) := by decide +kernel
theorem dX8_type_29 : decode cX8_type 29 = .ok (.ldc2_w 90, 3) := by decide +kernel
theorem dX8_type_32 : decode cX8_type 32 = .ok (.land, 1) := by decide +kernel
theorem dX8_type_33 : decode cX8_type 33 = .ok (.l2i, 1) := by decide +kernel
theorem dX8_type_34 : decode cX8_type 34 = .ok (.bipush 32, 2) := by decide +kernel
theorem dX8_type_36 : decode cX8_type 36 = .ok (.bipush 126, 2) := by decide +kernel
theorem dX8_type_38 : decode cX8_type 38 = .ok (.invokestatic 86, 3) := by decide +kernel
theorem dX8_type_41 : decode cX8_type 41 = .ok (.ifCond .ne 5, 3) := by decide +kernel
theorem dX8_type_44 : decode cX8_type 44 = .ok (.iconst (-1), 1) := by decide +kernel
theorem dX8_type_45 : decode cX8_type 45 = .ok (.ireturn, 1) := by decide +kernel
theorem dX8_type_46 : decode cX8_type 46 = .ok (.iinc 4 (-1), 3) := by decide +kernel
theorem dX8_type_49 : decode cX8_type 49 = .ok (.goto (-32), 3) := by decide +kernel
theorem dX8_type_52 : decode cX8_type 52 = .ok (.aload_n 0, 1) := by decide +kernel
theorem dX8_type_53 : decode cX8_type 53 = .ok (.getfield 92, 3) := by decide +kernel
theorem dX8_type_56 : decode cX8_type 56 = .ok (.iload_n 3, 1) := by decide +kernel
theorem dX8_type_57 : decode cX8_type 57 = .ok (.iadd, 1) := by decide +kernel
theorem dX8_type_58 : decode cX8_type 58 = .ok (.sipush 240, 3) := by decide +kernel
theorem dX8_type_61 : decode cX8_type 61 = .ok (.if_icmp .le 6, 3) := by decide +kernel
theorem dX8_type_64 : decode cX8_type 64 = .ok (.bipush (-3), 2) := by decide +kernel
theorem dX8_type_66 : decode cX8_type 66 = .ok (.ireturn, 1) := by decide +kernel
theorem dX8_type_67 : decode cX8_type 67 = .ok (.iload_n 3, 1) := by decide +kernel
theorem dX8_type_68 : decode cX8_type 68 = .ok (.iconst 1, 1) := by decide +kernel
theorem dX8_type_69 : decode cX8_type 69 = .ok (.isub, 1) := by decide +kernel
theorem dX8_type_70 : decode cX8_type 70 = .ok (.istore 4, 2) := by decide +kernel
theorem dX8_type_72 : decode cX8_type 72 = .ok (.iload 4, 2) := by decide +kernel
theorem dX8_type_74 : decode cX8_type 74 = .ok (.ifCond .lt 40, 3) := by decide +kernel
theorem dX8_type_77 : decode cX8_type 77 = .ok (.aload_n 0, 1) := by decide +kernel
theorem dX8_type_78 : decode cX8_type 78 = .ok (.getfield 7, 3) := by decide +kernel
theorem dX8_type_81 : decode cX8_type 81 = .ok (.aload_n 0, 1) := by decide +kernel
theorem dX8_type_82 : decode cX8_type 82 = .ok (.getfield 92, 3) := by decide +kernel
theorem dX8_type_85 : decode cX8_type 85 = .ok (.lload_n 1, 1) := by decide +kernel
theorem dX8_type_86 : decode cX8_type 86 = .ok (.bipush 8, 2) := by decide +kernel
theorem dX8_type_88 : decode cX8_type 88 = .ok (.iload 4, 2) := by decide +kernel
theorem dX8_type_90 : decode cX8_type 90 = .ok (.imul, 1) := by decide +kernel
theorem dX8_type_91 : decode cX8_type 91 = .ok (.lshr, 1) := by decide +kernel
theorem dX8_type_92 : decode cX8_type 92 = .ok (.ldc2_w 90, 3) := by decide +kernel
theorem dX8_type_95 : decode cX8_type 95 = .ok (.land, 1) := by decide +kernel
theorem dX8_type_96 : decode cX8_type 96 = .ok (.l2i, 1) := by decide +kernel
theorem dX8_type_97 : decode cX8_type 97 = .ok (.iastore, 1) := by decide +kernel
theorem dX8_type_98 : decode cX8_type 98 = .ok (.aload_n 0, 1) := by decide +kernel
theorem dX8_type_99 : decode cX8_type 99 = .ok (.dup, 1) := by decide +kernel
theorem dX8_type_100 : decode cX8_type 100 = .ok (.getfield 92, 3) := by decide +kernel
theorem dX8_type_103 : decode cX8_type 103 = .ok (.iconst 1, 1) := by decide +kernel
theorem dX8_type_104 : decode cX8_type 104 = .ok (.iadd, 1) := by decide +kernel
theorem dX8_type_105 : decode cX8_type 105 = .ok (.putfield 92, 3) := by decide +kernel
theorem dX8_type_108 : decode cX8_type 108 = .ok (.iinc 4 (-1), 3) := by decide +kernel
theorem dX8_type_111 : decode cX8_type 111 = .ok (.goto (-39), 3) := by decide +kernel
theorem dX8_type_114 : decode cX8_type 114 = .ok (.aload_n 0, 1) := by decide +kernel
theorem dX8_type_115 : decode cX8_type 115 = .ok (.getfield 92, 3) := by decide +kernel
theorem dX8_type_118 : decode cX8_type 118 = .ok (.ireturn, 1) := by decide +kernel
theorem dX8_letter_0 : decode cX8_letter 0 = .ok (.iload_n 0, 1) := by decide +kernel
theorem dX8_letter_1 : decode cX8_letter 1 = .ok (.bipush 97, 2) := by decide +kernel
theorem dX8_letter_3 : decode cX8_letter 3 = .ok (.bipush 122, 2) := by decide +kernel
theorem dX8_letter_5 : decode cX8_letter 5 = .ok (.invokestatic 86, 3) := by decide +kernel
theorem dX8_letter_8 : decode cX8_letter 8 = .ok (.ifCond .eq 12, 3) := by decide +kernel
theorem dX8_letter_11 : decode cX8_letter 11 = .ok (.iload_n 0, 1) := by decide +kernel
theorem dX8_letter_12 : decode cX8_letter 12 = .ok (.bipush 97, 2) := by decide +kernel
theorem dX8_letter_14 : decode cX8_letter 14 = .ok (.isub, 1) := by decide +kernel
theorem dX8_letter_15 : decode cX8_letter 15 = .ok (.iconst 1, 1) := by decide +kernel
theorem dX8_letter_16 : decode cX8_letter 16 = .ok (.iadd, 1) := by decide +kernel
theorem dX8_letter_17 : decode cX8_letter 17 = .ok (.goto 45, 3) := by decide +kernel
theorem dX8_letter_20 : decode cX8_letter 20 = .ok (.iload_n 0, 1) := by decide +kernel
theorem dX8_letter_21 : decode cX8_letter 21 = .ok (.bipush 65, 2) := by decide +kernel
theorem dX8_letter_23 : decode cX8_letter 23 = .ok (.bipush 90, 2) := by decide +kernel
theorem dX8_letter_25 : decode cX8_letter 25 = .ok (.invokestatic 86, 3) := by decide +kernel
theorem dX8_letter_28 : decode cX8_letter 28 = .ok (.ifCond .eq 12, 3) := by decide +kernel
theorem dX8_letter_31 : decode cX8_letter 31 = .ok (.iload_n 0, 1) := by decide +kernel
theorem dX8_letter_32 : decode cX8_letter 32 = .ok (.bipush 65, 2) := by decide +kernel
theorem dX8_letter_34 : decode cX8_letter 34 = .ok (.isub, 1) := by decide +kernel
theorem dX8_letter_35 : decode cX8_letter 35 = .ok (.iconst 1, 1) := by decide +kernel
theorem dX8_letter_36 : decode cX8_letter 36 = .ok (.iadd, 1) := by decide +kernel
theorem dX8_letter_37 : decode cX8_letter 37 = .ok (.goto 25, 3) := by decide +kernel
theorem dX8_letter_40 : decode cX8_letter 40 = .ok (.iload_n 0, 1) := by decide +kernel
theorem dX8_letter_41 : decode cX8_letter 41 = .ok (.bipush 48, 2) := by decide +kernel
theorem dX8_letter_43 : decode cX8_letter 43 = .ok (.bipush 57, 2) := by decide +kernel
theorem dX8_letter_45 : decode cX8_letter 45 = .ok (.invokestatic 86, 3) := by decide +kernel
theorem dX8_letter_48 : decode cX8_letter 48 = .ok (.ifCond .eq 13, 3) := by decide +kernel
theorem dX8_letter_51 : decode cX8_letter 51 = .ok (.iload_n 0, 1) := by decide +kernel
theorem dX8_letter_52 : decode cX8_letter 52 = .ok (.bipush 48, 2) := by decide +kernel
theorem dX8_letter_54 : decode cX8_letter 54 = .ok (.isub, 1) := by decide +kernel
theorem dX8_letter_55 : decode cX8_letter 55 = .ok (.bipush 27, 2) := by decide +kernel
theorem dX8_letter_57 : decode cX8_letter 57 = .ok (.iadd, 1) := by decide +kernel
theorem dX8_letter_58 : decode cX8_letter 58 = .ok (.goto 4, 3) := by decide +kernel
theorem dX8_letter_61 : decode cX8_letter 61 = .ok (.iconst 0, 1) := by decide +kernel
theorem dX8_letter_62 : decode cX8_letter 62 = .ok (.ireturn, 1) := by decide +kernel
theorem dX8_readWord_0 : decode cX8_readWord 0 = .ok (.lconst 0, 1) := by decide +kernel
theorem dX8_readWord_1 : decode cX8_readWord 1 = .ok (.lstore_n 1, 1) := by decide +kernel
theorem dX8_readWord_2 : decode cX8_readWord 2 = .ok (.iconst 0, 1) := by decide +kernel
theorem dX8_readWord_3 : decode cX8_readWord 3 = .ok (.istore_n 3, 1) := by decide +kernel
theorem dX8_readWord_4 : decode cX8_readWord 4 = .ok (.aload_n 0, 1) := by decide +kernel
theorem dX8_readWord_5 : decode cX8_readWord 5 = .ok (.getfield 95, 3) := by decide +kernel
theorem dX8_readWord_8 : decode cX8_readWord 8 = .ok (.aload_n 0, 1) := by decide +kernel
theorem dX8_readWord_9 : decode cX8_readWord 9 = .ok (.getfield 92, 3) := by decide +kernel
theorem dX8_readWord_12 : decode cX8_readWord 12 = .ok (.if_icmp .ge 64, 3) := by decide +kernel
theorem dX8_readWord_15 : decode cX8_readWord 15 = .ok (.aload_n 0, 1) := by decide +kernel
theorem dX8_readWord_16 : decode cX8_readWord 16 = .ok (.getfield 7, 3) := by decide +kernel
theorem dX8_readWord_19 : decode cX8_readWord 19 = .ok (.aload_n 0, 1) := by decide +kernel
theorem dX8_readWord_20 : decode cX8_readWord 20 = .ok (.getfield 95, 3) := by decide +kernel
theorem dX8_readWord_23 : decode cX8_readWord 23 = .ok (.iaload, 1) := by decide +kernel
theorem dX8_readWord_24 : decode cX8_readWord 24 = .ok (.invokestatic 98, 3) := by decide +kernel
theorem dX8_readWord_27 : decode cX8_readWord 27 = .ok (.ifCond .le 49, 3) := by decide +kernel
theorem dX8_readWord_30 : decode cX8_readWord 30 = .ok (.iload_n 3, 1) := by decide +kernel
theorem dX8_readWord_31 : decode cX8_readWord 31 = .ok (.bipush 6, 2) := by decide +kernel
theorem dX8_readWord_33 : decode cX8_readWord 33 = .ok (.if_icmp .ge 25, 3) := by decide +kernel
theorem dX8_readWord_36 : decode cX8_readWord 36 = .ok (.ldc2_w 102, 3) := by decide +kernel
theorem dX8_readWord_39 : decode cX8_readWord 39 = .ok (.lload_n 1, 1) := by decide +kernel
theorem dX8_readWord_40 : decode cX8_readWord 40 = .ok (.lmul, 1) := by decide +kernel
theorem dX8_readWord_41 : decode cX8_readWord 41 = .ok (.aload_n 0, 1) := by decide +kernel
theorem dX8_readWord_42 : decode cX8_readWord 42 = .ok (.getfield 7, 3) := by decide +kernel
theorem dX8_readWord_45 : decode cX8_readWord 45 = .ok (.aload_n 0, 1) := by decide +kernel
theorem dX8_readWord_46 : decode cX8_readWord 46 = .ok (.getfield 95, 3) := by decide +kernel
theorem dX8_readWord_49 : decode cX8_readWord 49 = .ok (.iaload, 1) := by decide +kernel
theorem dX8_readWord_50 : decode cX8_readWord 50 = .ok (.invokestatic 98, 3) := by decide +kernel
theorem dX8_readWord_53 : decode cX8_readWord 53 = .ok (.i2l, 1) := by decide +kernel
theorem dX8_readWord_54 : decode cX8_readWord 54 = .ok (.ladd, 1) := by decide +kernel
theorem dX8_readWord_55 : decode cX8_readWord 55 = .ok (.goto 4, 3) := by decide +kernel
theorem dX8_readWord_58 : decode cX8_readWord 58 = .ok (.lload_n 1, 1) := by decide +kernel
theorem dX8_readWord_59 : decode cX8_readWord 59 = .ok (.lstore_n 1, 1) := by decide +kernel
theorem dX8_readWord_60 : decode cX8_readWord 60 = .ok (.iinc 3 1, 3) := by decide +kernel
theorem dX8_readWord_63 : decode cX8_readWord 63 = .ok (.aload_n 0, 1) := by decide +kernel
theorem dX8_readWord_64 : decode cX8_readWord 64 = .ok (.dup, 1) := by decide +kernel
theorem dX8_readWord_65 : decode cX8_readWord 65 = .ok (.getfield 95, 3) := by decide +kernel
theorem dX8_readWord_68 : decode cX8_readWord 68 = .ok (.iconst 1, 1) := by decide +kernel
theorem dX8_readWord_69 : decode cX8_readWord 69 = .ok (.iadd, 1) := by decide +kernel
theorem dX8_readWord_70 : decode cX8_readWord 70 = .ok (.putfield 95, 3) := by decide +kernel
theorem dX8_readWord_73 : decode cX8_readWord 73 = .ok (.goto (-69), 3) := by decide +kernel
theorem dX8_readWord_76 : decode cX8_readWord 76 = .ok (.aload_n 0, 1) := by decide +kernel
theorem dX8_readWord_77 : decode cX8_readWord 77 = .ok (.iload_n 3, 1) := by decide +kernel
theorem dX8_readWord_78 : decode cX8_readWord 78 = .ok (.putfield 104, 3) := by decide +kernel
theorem dX8_readWord_81 : decode cX8_readWord 81 = .ok (.lload_n 1, 1) := by decide +kernel
theorem dX8_readWord_82 : decode cX8_readWord 82 = .ok (.lreturn, 1) := by decide +kernel
theorem dX8_codeOf_0 : decode cX8_codeOf 0 = .ok (.aload_n 0, 1) := by decide +kernel
theorem dX8_codeOf_1 : decode cX8_codeOf 1 = .ok (.getfield 56, 3) := by decide +kernel
theorem dX8_codeOf_4 : decode cX8_codeOf 4 = .ok (.astore_n 3, 1) := by decide +kernel
theorem dX8_codeOf_5 : decode cX8_codeOf 5 = .ok (.iconst 0, 1) := by decide +kernel
theorem dX8_codeOf_6 : decode cX8_codeOf 6 = .ok (.istore 4, 2) := by decide +kernel
theorem dX8_codeOf_8 : decode cX8_codeOf 8 = .ok (.iload 4, 2) := by decide +kernel
theorem dX8_codeOf_10 : decode cX8_codeOf 10 = .ok (.iconst 5, 1) := by decide +kernel
theorem dX8_codeOf_11 : decode cX8_codeOf 11 = .ok (.if_icmp .ge 31, 3) := by decide +kernel
theorem dX8_codeOf_14 : decode cX8_codeOf 14 = .ok (.aload_n 3, 1) := by decide +kernel
theorem dX8_codeOf_15 : decode cX8_codeOf 15 = .ok (.iload 4, 2) := by decide +kernel
theorem dX8_codeOf_17 : decode cX8_codeOf 17 = .ok (.laload, 1) := by decide +kernel
theorem dX8_codeOf_18 : decode cX8_codeOf 18 = .ok (.lload_n 1, 1) := by decide +kernel
theorem dX8_codeOf_19 : decode cX8_codeOf 19 = .ok (.lcmp, 1) := by decide +kernel
theorem dX8_codeOf_20 : decode cX8_codeOf 20 = .ok (.ifCond .ne 16, 3) := by decide +kernel
theorem dX8_codeOf_23 : decode cX8_codeOf 23 = .ok (.aload_n 0, 1) := by decide +kernel
theorem dX8_codeOf_24 : decode cX8_codeOf 24 = .ok (.getfield 104, 3) := by decide +kernel
theorem dX8_codeOf_27 : decode cX8_codeOf 27 = .ok (.iconst 4, 1) := by decide +kernel
theorem dX8_codeOf_28 : decode cX8_codeOf 28 = .ok (.if_icmp .ge 8, 3) := by decide +kernel
theorem dX8_codeOf_31 : decode cX8_codeOf 31 = .ok (.iload 4, 2) := by decide +kernel
theorem dX8_codeOf_33 : decode cX8_codeOf 33 = .ok (.iconst 1, 1) := by decide +kernel
theorem dX8_codeOf_34 : decode cX8_codeOf 34 = .ok (.iadd, 1) := by decide +kernel
theorem dX8_codeOf_35 : decode cX8_codeOf 35 = .ok (.ireturn, 1) := by decide +kernel
theorem dX8_codeOf_36 : decode cX8_codeOf 36 = .ok (.iinc 4 1, 3) := by decide +kernel
theorem dX8_codeOf_39 : decode cX8_codeOf 39 = .ok (.goto (-31), 3) := by decide +kernel
theorem dX8_codeOf_42 : decode cX8_codeOf 42 = .ok (.bipush 6, 2) := by decide +kernel
theorem dX8_codeOf_44 : decode cX8_codeOf 44 = .ok (.ireturn, 1) := by decide +kernel
theorem dX8_add_0 : decode cX8_add 0 = .ok (.aload_n 0, 1) := by decide +kernel
theorem dX8_add_1 : decode cX8_add 1 = .ok (.getfield 17, 3) := by decide +kernel
theorem dX8_add_4 : decode cX8_add 4 = .ok (.iload_n 1, 1) := by decide +kernel
theorem dX8_add_5 : decode cX8_add 5 = .ok (.iaload, 1) := by decide +kernel
theorem dX8_add_6 : decode cX8_add 6 = .ok (.bipush 40, 2) := by decide +kernel
theorem dX8_add_8 : decode cX8_add 8 = .ok (.if_icmp .ge 30, 3) := by decide +kernel
theorem dX8_add_11 : decode cX8_add 11 = .ok (.aload_n 0, 1) := by decide +kernel
theorem dX8_add_12 : decode cX8_add 12 = .ok (.getfield 26, 3) := by decide +kernel
theorem dX8_add_15 : decode cX8_add 15 = .ok (.bipush 40, 2) := by decide +kernel
theorem dX8_add_17 : decode cX8_add 17 = .ok (.iload_n 1, 1) := by decide +kernel
theorem dX8_add_18 : decode cX8_add 18 = .ok (.imul, 1) := by decide +kernel
theorem dX8_add_19 : decode cX8_add 19 = .ok (.aload_n 0, 1) := by decide +kernel
theorem dX8_add_20 : decode cX8_add 20 = .ok (.getfield 17, 3) := by decide +kernel
theorem dX8_add_23 : decode cX8_add 23 = .ok (.iload_n 1, 1) := by decide +kernel
theorem dX8_add_24 : decode cX8_add 24 = .ok (.iaload, 1) := by decide +kernel
theorem dX8_add_25 : decode cX8_add 25 = .ok (.iadd, 1) := by decide +kernel
theorem dX8_add_26 : decode cX8_add 26 = .ok (.lload_n 2, 1) := by decide +kernel
theorem dX8_add_27 : decode cX8_add 27 = .ok (.lastore, 1) := by decide +kernel
theorem dX8_add_28 : decode cX8_add 28 = .ok (.aload_n 0, 1) := by decide +kernel
theorem dX8_add_29 : decode cX8_add 29 = .ok (.getfield 17, 3) := by decide +kernel
theorem dX8_add_32 : decode cX8_add 32 = .ok (.iload_n 1, 1) := by decide +kernel
theorem dX8_add_33 : decode cX8_add 33 = .ok (.dup2, 1) := by decide +kernel
theorem dX8_add_34 : decode cX8_add 34 = .ok (.iaload, 1) := by decide +kernel
theorem dX8_add_35 : decode cX8_add 35 = .ok (.iconst 1, 1) := by decide +kernel
theorem dX8_add_36 : decode cX8_add 36 = .ok (.iadd, 1) := by decide +kernel
theorem dX8_add_37 : decode cX8_add 37 = .ok (.iastore, 1) := by decide +kernel
theorem dX8_add_38 : decode cX8_add 38 = .ok (.return_, 1) := by decide +kernel
theorem dX8_read_0 : decode cX8_read 0 = .ok (.aload_n 0, 1) := by decide +kernel
theorem dX8_read_1 : decode cX8_read 1 = .ok (.iconst 0, 1) := by decide +kernel
theorem dX8_read_2 : decode cX8_read 2 = .ok (.putfield 95, 3) := by decide +kernel
theorem dX8_read_5 : decode cX8_read 5 = .ok (.aload_n 0, 1) := by decide +kernel
theorem dX8_read_6 : decode cX8_read 6 = .ok (.getfield 95, 3) := by decide +kernel
theorem dX8_read_9 : decode cX8_read 9 = .ok (.aload_n 0, 1) := by decide +kernel
theorem dX8_read_10 : decode cX8_read 10 = .ok (.getfield 92, 3) := by decide +kernel
theorem dX8_read_13 : decode cX8_read 13 = .ok (.if_icmp .ge 159, 3) := by decide +kernel
theorem dX8_read_16 : decode cX8_read 16 = .ok (.aload_n 0, 1) := by decide +kernel
theorem dX8_read_17 : decode cX8_read 17 = .ok (.getfield 7, 3) := by decide +kernel
theorem dX8_read_20 : decode cX8_read 20 = .ok (.aload_n 0, 1) := by decide +kernel
theorem dX8_read_21 : decode cX8_read 21 = .ok (.getfield 95, 3) := by decide +kernel
theorem dX8_read_24 : decode cX8_read 24 = .ok (.iaload, 1) := by decide +kernel
theorem dX8_read_25 : decode cX8_read 25 = .ok (.istore_n 3, 1) := by decide +kernel
theorem dX8_read_26 : decode cX8_read 26 = .ok (.iload_n 3, 1) := by decide +kernel
theorem dX8_read_27 : decode cX8_read 27 = .ok (.invokestatic 98, 3) := by decide +kernel
theorem dX8_read_30 : decode cX8_read 30 = .ok (.istore 4, 2) := by decide +kernel
theorem dX8_read_32 : decode cX8_read 32 = .ok (.iload 4, 2) := by decide +kernel
theorem dX8_read_34 : decode cX8_read 34 = .ok (.iconst 1, 1) := by decide +kernel
theorem dX8_read_35 : decode cX8_read 35 = .ok (.bipush 26, 2) := by decide +kernel
theorem dX8_read_37 : decode cX8_read 37 = .ok (.invokestatic 86, 3) := by decide +kernel
theorem dX8_read_40 : decode cX8_read 40 = .ok (.ifCond .eq 33, 3) := by decide +kernel
theorem dX8_read_43 : decode cX8_read 43 = .ok (.aload_n 0, 1) := by decide +kernel
theorem dX8_read_44 : decode cX8_read 44 = .ok (.invokevirtual 107, 3) := by decide +kernel
theorem dX8_read_47 : decode cX8_read 47 = .ok (.lstore 5, 2) := by decide +kernel
theorem dX8_read_49 : decode cX8_read 49 = .ok (.aload_n 0, 1) := by decide +kernel
theorem dX8_read_50 : decode cX8_read 50 = .ok (.iload_n 1, 1) := by decide +kernel
theorem dX8_read_51 : decode cX8_read 51 = .ok (.iload_n 2, 1) := by decide +kernel
theorem dX8_read_52 : decode cX8_read 52 = .ok (.ifCond .ne 8, 3) := by decide +kernel
theorem dX8_read_55 : decode cX8_read 55 = .ok (.lload 5, 2) := by decide +kernel
theorem dX8_read_57 : decode cX8_read 57 = .ok (.goto 10, 3) := by decide +kernel
theorem dX8_read_60 : decode cX8_read 60 = .ok (.aload_n 0, 1) := by decide +kernel
theorem dX8_read_61 : decode cX8_read 61 = .ok (.lload 5, 2) := by decide +kernel
theorem dX8_read_63 : decode cX8_read 63 = .ok (.invokevirtual 111, 3) := by decide +kernel
theorem dX8_read_66 : decode cX8_read 66 = .ok (.i2l, 1) := by decide +kernel
theorem dX8_read_67 : decode cX8_read 67 = .ok (.invokevirtual 115, 3) := by decide +kernel
theorem dX8_read_70 : decode cX8_read 70 = .ok (.goto 99, 3) := by decide +kernel
theorem dX8_read_73 : decode cX8_read 73 = .ok (.iload 4, 2) := by decide +kernel
theorem dX8_read_75 : decode cX8_read 75 = .ok (.bipush 26, 2) := by decide +kernel
theorem dX8_read_77 : decode cX8_read 77 = .ok (.if_icmp .le 60, 3) := by decide +kernel
theorem dX8_read_80 : decode cX8_read 80 = .ok (.aload_n 0, 1) := by decide +kernel
theorem dX8_read_81 : decode cX8_read 81 = .ok (.getfield 95, 3) := by decide +kernel
theorem dX8_read_84 : decode cX8_read 84 = .ok (.aload_n 0, 1) := by decide +kernel
theorem dX8_read_85 : decode cX8_read 85 = .ok (.getfield 92, 3) := by decide +kernel
theorem dX8_read_88 : decode cX8_read 88 = .ok (.if_icmp .ge 33, 3) := by decide +kernel
theorem dX8_read_91 : decode cX8_read 91 = .ok (.aload_n 0, 1) := by decide +kernel
theorem dX8_read_92 : decode cX8_read 92 = .ok (.getfield 7, 3) := by decide +kernel
theorem dX8_read_95 : decode cX8_read 95 = .ok (.aload_n 0, 1) := by decide +kernel
theorem dX8_read_96 : decode cX8_read 96 = .ok (.getfield 95, 3) := by decide +kernel
theorem dX8_read_99 : decode cX8_read 99 = .ok (.iaload, 1) := by decide +kernel
theorem dX8_read_100 : decode cX8_read 100 = .ok (.invokestatic 98, 3) := by decide +kernel
theorem dX8_read_103 : decode cX8_read 103 = .ok (.bipush 26, 2) := by decide +kernel
theorem dX8_read_105 : decode cX8_read 105 = .ok (.if_icmp .le 16, 3) := by decide +kernel
theorem dX8_read_108 : decode cX8_read 108 = .ok (.aload_n 0, 1) := by decide +kernel
theorem dX8_read_109 : decode cX8_read 109 = .ok (.dup, 1) := by decide +kernel
theorem dX8_read_110 : decode cX8_read 110 = .ok (.getfield 95, 3) := by decide +kernel
theorem dX8_read_113 : decode cX8_read 113 = .ok (.iconst 1, 1) := by decide +kernel
theorem dX8_read_114 : decode cX8_read 114 = .ok (.iadd, 1) := by decide +kernel
theorem dX8_read_115 : decode cX8_read 115 = .ok (.putfield 95, 3) := by decide +kernel
theorem dX8_read_118 : decode cX8_read 118 = .ok (.goto (-38), 3) := by decide +kernel
theorem dX8_read_121 : decode cX8_read 121 = .ok (.iload_n 2, 1) := by decide +kernel
theorem dX8_read_122 : decode cX8_read 122 = .ok (.iconst 1, 1) := by decide +kernel
theorem dX8_read_123 : decode cX8_read 123 = .ok (.if_icmp .ne 46, 3) := by decide +kernel
theorem dX8_read_126 : decode cX8_read 126 = .ok (.aload_n 0, 1) := by decide +kernel
theorem dX8_read_127 : decode cX8_read 127 = .ok (.iload_n 1, 1) := by decide +kernel
theorem dX8_read_128 : decode cX8_read 128 = .ok (.ldc2_w 119, 3) := by decide +kernel
theorem dX8_read_131 : decode cX8_read 131 = .ok (.invokevirtual 115, 3) := by decide +kernel
theorem dX8_read_134 : decode cX8_read 134 = .ok (.goto 35, 3) := by decide +kernel
theorem dX8_read_137 : decode cX8_read 137 = .ok (.aload_n 0, 1) := by decide +kernel
theorem dX8_read_138 : decode cX8_read 138 = .ok (.dup, 1) := by decide +kernel
theorem dX8_read_139 : decode cX8_read 139 = .ok (.getfield 95, 3) := by decide +kernel
theorem dX8_read_142 : decode cX8_read 142 = .ok (.iconst 1, 1) := by decide +kernel
theorem dX8_read_143 : decode cX8_read 143 = .ok (.iadd, 1) := by decide +kernel
theorem dX8_read_144 : decode cX8_read 144 = .ok (.putfield 95, 3) := by decide +kernel
theorem dX8_read_147 : decode cX8_read 147 = .ok (.iload_n 2, 1) := by decide +kernel
theorem dX8_read_148 : decode cX8_read 148 = .ok (.iconst 1, 1) := by decide +kernel
theorem dX8_read_149 : decode cX8_read 149 = .ok (.if_icmp .ne 20, 3) := by decide +kernel
theorem dX8_read_152 : decode cX8_read 152 = .ok (.iload_n 3, 1) := by decide +kernel
theorem dX8_read_153 : decode cX8_read 153 = .ok (.bipush 32, 2) := by decide +kernel
theorem dX8_read_155 : decode cX8_read 155 = .ok (.if_icmp .eq 14, 3) := by decide +kernel
theorem dX8_read_158 : decode cX8_read 158 = .ok (.aload_n 0, 1) := by decide +kernel
theorem dX8_read_159 : decode cX8_read 159 = .ok (.iload_n 1, 1) := by decide +kernel
theorem dX8_read_160 : decode cX8_read 160 = .ok (.ldc2_w 121, 3) := by decide +kernel
theorem dX8_read_163 : decode cX8_read 163 = .ok (.iload_n 3, 1) := by decide +kernel
theorem dX8_read_164 : decode cX8_read 164 = .ok (.i2l, 1) := by decide +kernel
theorem dX8_read_165 : decode cX8_read 165 = .ok (.ladd, 1) := by decide +kernel
theorem dX8_read_166 : decode cX8_read 166 = .ok (.invokevirtual 115, 3) := by decide +kernel
theorem dX8_read_169 : decode cX8_read 169 = .ok (.goto (-164), 3) := by decide +kernel
theorem dX8_read_172 : decode cX8_read 172 = .ok (.return_, 1) := by decide +kernel
theorem dX8_isNumber_0 : decode cX8_isNumber 0 = .ok (.iload_n 0, 1) := by decide +kernel
theorem dX8_isNumber_1 : decode cX8_isNumber 1 = .ok (.iconst 0, 1) := by decide +kernel
theorem dX8_isNumber_2 : decode cX8_isNumber 2 = .ok (.iconst 5, 1) := by decide +kernel
theorem dX8_isNumber_3 : decode cX8_isNumber 3 = .ok (.invokestatic 86, 3) := by decide +kernel
theorem dX8_isNumber_6 : decode cX8_isNumber 6 = .ok (.ireturn, 1) := by decide +kernel
theorem dX8_book_0 : decode cX8_book 0 = .ok (.iload_n 1, 1) := by decide +kernel
theorem dX8_book_1 : decode cX8_book 1 = .ok (.invokestatic 123, 3) := by decide +kernel
theorem dX8_book_4 : decode cX8_book 4 = .ok (.ifCond .eq 23, 3) := by decide +kernel
theorem dX8_book_7 : decode cX8_book 7 = .ok (.iload_n 2, 1) := by decide +kernel
theorem dX8_book_8 : decode cX8_book 8 = .ok (.iconst 0, 1) := by decide +kernel
theorem dX8_book_9 : decode cX8_book 9 = .ok (.iconst 1, 1) := by decide +kernel
theorem dX8_book_10 : decode cX8_book 10 = .ok (.invokestatic 86, 3) := by decide +kernel
theorem dX8_book_13 : decode cX8_book 13 = .ok (.ifCond .eq 14, 3) := by decide +kernel
theorem dX8_book_16 : decode cX8_book 16 = .ok (.iload_n 3, 1) := by decide +kernel
theorem dX8_book_17 : decode cX8_book 17 = .ok (.iconst 0, 1) := by decide +kernel
theorem dX8_book_18 : decode cX8_book 18 = .ok (.sipush 9999, 3) := by decide +kernel
theorem dX8_book_21 : decode cX8_book 21 = .ok (.invokestatic 86, 3) := by decide +kernel
theorem dX8_book_24 : decode cX8_book 24 = .ok (.ifCond .ne 5, 3) := by decide +kernel
theorem dX8_book_27 : decode cX8_book 27 = .ok (.iconst (-1), 1) := by decide +kernel
theorem dX8_book_28 : decode cX8_book 28 = .ok (.ireturn, 1) := by decide +kernel
theorem dX8_book_29 : decode cX8_book 29 = .ok (.aload_n 0, 1) := by decide +kernel
theorem dX8_book_30 : decode cX8_book 30 = .ok (.getfield 13, 3) := by decide +kernel
theorem dX8_book_33 : decode cX8_book 33 = .ok (.iload_n 1, 1) := by decide +kernel
theorem dX8_book_34 : decode cX8_book 34 = .ok (.iconst 1, 1) := by decide +kernel
theorem dX8_book_35 : decode cX8_book 35 = .ok (.bastore, 1) := by decide +kernel
theorem dX8_book_36 : decode cX8_book 36 = .ok (.aload_n 0, 1) := by decide +kernel
theorem dX8_book_37 : decode cX8_book 37 = .ok (.getfield 17, 3) := by decide +kernel
theorem dX8_book_40 : decode cX8_book 40 = .ok (.iload_n 1, 1) := by decide +kernel
theorem dX8_book_41 : decode cX8_book 41 = .ok (.iconst 0, 1) := by decide +kernel
theorem dX8_book_42 : decode cX8_book 42 = .ok (.iastore, 1) := by decide +kernel
theorem dX8_book_43 : decode cX8_book 43 = .ok (.aload_n 0, 1) := by decide +kernel
theorem dX8_book_44 : decode cX8_book 44 = .ok (.getfield 20, 3) := by decide +kernel
theorem dX8_book_47 : decode cX8_book 47 = .ok (.iload_n 1, 1) := by decide +kernel
theorem dX8_book_48 : decode cX8_book 48 = .ok (.iload_n 2, 1) := by decide +kernel
theorem dX8_book_49 : decode cX8_book 49 = .ok (.iastore, 1) := by decide +kernel
theorem dX8_book_50 : decode cX8_book 50 = .ok (.aload_n 0, 1) := by decide +kernel
theorem dX8_book_51 : decode cX8_book 51 = .ok (.getfield 23, 3) := by decide +kernel
theorem dX8_book_54 : decode cX8_book 54 = .ok (.iload_n 1, 1) := by decide +kernel
theorem dX8_book_55 : decode cX8_book 55 = .ok (.iload_n 3, 1) := by decide +kernel
theorem dX8_book_56 : decode cX8_book 56 = .ok (.iastore, 1) := by decide +kernel
theorem dX8_book_57 : decode cX8_book 57 = .ok (.aload_n 0, 1) := by decide +kernel
theorem dX8_book_58 : decode cX8_book 58 = .ok (.iload_n 1, 1) := by decide +kernel
theorem dX8_book_59 : decode cX8_book 59 = .ok (.iload_n 2, 1) := by decide +kernel
theorem dX8_book_60 : decode cX8_book 60 = .ok (.invokevirtual 127, 3) := by decide +kernel
theorem dX8_book_63 : decode cX8_book 63 = .ok (.aload_n 0, 1) := by decide +kernel
theorem dX8_book_64 : decode cX8_book 64 = .ok (.iconst 0, 1) := by decide +kernel
theorem dX8_book_65 : decode cX8_book 65 = .ok (.putfield 92, 3) := by decide +kernel
theorem dX8_book_68 : decode cX8_book 68 = .ok (.aload_n 0, 1) := by decide +kernel
theorem dX8_book_69 : decode cX8_book 69 = .ok (.getfield 17, 3) := by decide +kernel
theorem dX8_book_72 : decode cX8_book 72 = .ok (.iload_n 1, 1) := by decide +kernel
theorem dX8_book_73 : decode cX8_book 73 = .ok (.iaload, 1) := by decide +kernel
theorem dX8_book_74 : decode cX8_book 74 = .ok (.ireturn, 1) := by decide +kernel
theorem dX8_withdraw_0 : decode cX8_withdraw 0 = .ok (.iload_n 1, 1) := by decide +kernel
theorem dX8_withdraw_1 : decode cX8_withdraw 1 = .ok (.invokestatic 123, 3) := by decide +kernel
theorem dX8_withdraw_4 : decode cX8_withdraw 4 = .ok (.ifCond .ne 5, 3) := by decide +kernel
theorem dX8_withdraw_7 : decode cX8_withdraw 7 = .ok (.iconst (-1), 1) := by decide +kernel
theorem dX8_withdraw_8 : decode cX8_withdraw 8 = .ok (.ireturn, 1) := by decide +kernel
theorem dX8_withdraw_9 : decode cX8_withdraw 9 = .ok (.aload_n 0, 1) := by decide +kernel
theorem dX8_withdraw_10 : decode cX8_withdraw 10 = .ok (.getfield 13, 3) := by decide +kernel
theorem dX8_withdraw_13 : decode cX8_withdraw 13 = .ok (.iload_n 1, 1) := by decide +kernel
theorem dX8_withdraw_14 : decode cX8_withdraw 14 = .ok (.baload, 1) := by decide +kernel
theorem dX8_withdraw_15 : decode cX8_withdraw 15 = .ok (.ifCond .ne 6, 3) := by decide +kernel
theorem dX8_withdraw_18 : decode cX8_withdraw 18 = .ok (.bipush (-2), 2) := by decide +kernel
theorem dX8_withdraw_20 : decode cX8_withdraw 20 = .ok (.ireturn, 1) := by decide +kernel
theorem dX8_withdraw_21 : decode cX8_withdraw 21 = .ok (.aload_n 0, 1) := by decide +kernel
theorem dX8_withdraw_22 : decode cX8_withdraw 22 = .ok (.getfield 13, 3) := by decide +kernel
theorem dX8_withdraw_25 : decode cX8_withdraw 25 = .ok (.iload_n 1, 1) := by decide +kernel
theorem dX8_withdraw_26 : decode cX8_withdraw 26 = .ok (.iconst 0, 1) := by decide +kernel
theorem dX8_withdraw_27 : decode cX8_withdraw 27 = .ok (.bastore, 1) := by decide +kernel
theorem dX8_withdraw_28 : decode cX8_withdraw 28 = .ok (.aload_n 0, 1) := by decide +kernel
theorem dX8_withdraw_29 : decode cX8_withdraw 29 = .ok (.aload_n 0, 1) := by decide +kernel
theorem dX8_withdraw_30 : decode cX8_withdraw 30 = .ok (.getfield 43, 3) := by decide +kernel
theorem dX8_withdraw_33 : decode cX8_withdraw 33 = .ok (.iload_n 1, 1) := by decide +kernel
theorem dX8_withdraw_34 : decode cX8_withdraw 34 = .ok (.if_icmp .ne 7, 3) := by decide +kernel
theorem dX8_withdraw_37 : decode cX8_withdraw 37 = .ok (.iconst (-1), 1) := by decide +kernel
theorem dX8_withdraw_38 : decode cX8_withdraw 38 = .ok (.goto 7, 3) := by decide +kernel
theorem dX8_withdraw_41 : decode cX8_withdraw 41 = .ok (.aload_n 0, 1) := by decide +kernel
theorem dX8_withdraw_42 : decode cX8_withdraw 42 = .ok (.getfield 43, 3) := by decide +kernel
theorem dX8_withdraw_45 : decode cX8_withdraw 45 = .ok (.putfield 43, 3) := by decide +kernel
theorem dX8_withdraw_48 : decode cX8_withdraw 48 = .ok (.aload_n 0, 1) := by decide +kernel
theorem dX8_withdraw_49 : decode cX8_withdraw 49 = .ok (.getfield 17, 3) := by decide +kernel
theorem dX8_withdraw_52 : decode cX8_withdraw 52 = .ok (.iload_n 1, 1) := by decide +kernel
theorem dX8_withdraw_53 : decode cX8_withdraw 53 = .ok (.iaload, 1) := by decide +kernel
theorem dX8_withdraw_54 : decode cX8_withdraw 54 = .ok (.ireturn, 1) := by decide +kernel
theorem dX8_token_0 : decode cX8_token 0 = .ok (.iload_n 1, 1) := by decide +kernel
theorem dX8_token_1 : decode cX8_token 1 = .ok (.invokestatic 123, 3) := by decide +kernel
theorem dX8_token_4 : decode cX8_token 4 = .ok (.ifCond .eq 9, 3) := by decide +kernel
theorem dX8_token_7 : decode cX8_token 7 = .ok (.iload_n 2, 1) := by decide +kernel
theorem dX8_token_8 : decode cX8_token 8 = .ok (.bipush (-3), 2) := by decide +kernel
theorem dX8_token_10 : decode cX8_token 10 = .ok (.if_icmp .ge 7, 3) := by decide +kernel
theorem dX8_token_13 : decode cX8_token 13 = .ok (.ldc2_w 131, 3) := by decide +kernel
theorem dX8_token_16 : decode cX8_token 16 = .ok (.lreturn, 1) := by decide +kernel
theorem dX8_token_17 : decode cX8_token 17 = .ok (.aload_n 0, 1) := by decide +kernel
theorem dX8_token_18 : decode cX8_token 18 = .ok (.getfield 13, 3) := by decide +kernel
theorem dX8_token_21 : decode cX8_token 21 = .ok (.iload_n 1, 1) := by decide +kernel
theorem dX8_token_22 : decode cX8_token 22 = .ok (.baload, 1) := by decide +kernel
theorem dX8_token_23 : decode cX8_token 23 = .ok (.ifCond .ne 7, 3) := by decide +kernel
theorem dX8_token_26 : decode cX8_token 26 = .ok (.ldc2_w 133, 3) := by decide +kernel
theorem dX8_token_29 : decode cX8_token 29 = .ok (.lreturn, 1) := by decide +kernel
theorem dX8_token_30 : decode cX8_token 30 = .ok (.iload_n 2, 1) := by decide +kernel
theorem dX8_token_31 : decode cX8_token 31 = .ok (.aload_n 0, 1) := by decide +kernel
theorem dX8_token_32 : decode cX8_token 32 = .ok (.getfield 17, 3) := by decide +kernel
theorem dX8_token_35 : decode cX8_token 35 = .ok (.iload_n 1, 1) := by decide +kernel
theorem dX8_token_36 : decode cX8_token 36 = .ok (.iaload, 1) := by decide +kernel
theorem dX8_token_37 : decode cX8_token 37 = .ok (.if_icmp .lt 7, 3) := by decide +kernel
theorem dX8_token_40 : decode cX8_token 40 = .ok (.ldc2_w 131, 3) := by decide +kernel
theorem dX8_token_43 : decode cX8_token 43 = .ok (.lreturn, 1) := by decide +kernel
theorem dX8_token_44 : decode cX8_token 44 = .ok (.iload_n 2, 1) := by decide +kernel
theorem dX8_token_45 : decode cX8_token 45 = .ok (.iconst (-1), 1) := by decide +kernel
theorem dX8_token_46 : decode cX8_token 46 = .ok (.if_icmp .ne 13, 3) := by decide +kernel
theorem dX8_token_49 : decode cX8_token 49 = .ok (.aload_n 0, 1) := by decide +kernel
theorem dX8_token_50 : decode cX8_token 50 = .ok (.getfield 17, 3) := by decide +kernel
theorem dX8_token_53 : decode cX8_token 53 = .ok (.iload_n 1, 1) := by decide +kernel
theorem dX8_token_54 : decode cX8_token 54 = .ok (.iaload, 1) := by decide +kernel
theorem dX8_token_55 : decode cX8_token 55 = .ok (.i2l, 1) := by decide +kernel
theorem dX8_token_56 : decode cX8_token 56 = .ok (.goto 46, 3) := by decide +kernel
theorem dX8_token_59 : decode cX8_token 59 = .ok (.iload_n 2, 1) := by decide +kernel
theorem dX8_token_60 : decode cX8_token 60 = .ok (.bipush (-2), 2) := by decide +kernel
theorem dX8_token_62 : decode cX8_token 62 = .ok (.if_icmp .ne 13, 3) := by decide +kernel
theorem dX8_token_65 : decode cX8_token 65 = .ok (.aload_n 0, 1) := by decide +kernel
theorem dX8_token_66 : decode cX8_token 66 = .ok (.getfield 20, 3) := by decide +kernel
theorem dX8_token_69 : decode cX8_token 69 = .ok (.iload_n 1, 1) := by decide +kernel
theorem dX8_token_70 : decode cX8_token 70 = .ok (.iaload, 1) := by decide +kernel
theorem dX8_token_71 : decode cX8_token 71 = .ok (.i2l, 1) := by decide +kernel
theorem dX8_token_72 : decode cX8_token 72 = .ok (.goto 30, 3) := by decide +kernel
theorem dX8_token_75 : decode cX8_token 75 = .ok (.iload_n 2, 1) := by decide +kernel
theorem dX8_token_76 : decode cX8_token 76 = .ok (.bipush (-3), 2) := by decide +kernel
theorem dX8_token_78 : decode cX8_token 78 = .ok (.if_icmp .ne 13, 3) := by decide +kernel
theorem dX8_token_81 : decode cX8_token 81 = .ok (.aload_n 0, 1) := by decide +kernel
theorem dX8_token_82 : decode cX8_token 82 = .ok (.getfield 23, 3) := by decide +kernel
theorem dX8_token_85 : decode cX8_token 85 = .ok (.iload_n 1, 1) := by decide +kernel
theorem dX8_token_86 : decode cX8_token 86 = .ok (.iaload, 1) := by decide +kernel
theorem dX8_token_87 : decode cX8_token 87 = .ok (.i2l, 1) := by decide +kernel
theorem dX8_token_88 : decode cX8_token 88 = .ok (.goto 14, 3) := by decide +kernel
theorem dX8_token_91 : decode cX8_token 91 = .ok (.aload_n 0, 1) := by decide +kernel
theorem dX8_token_92 : decode cX8_token 92 = .ok (.getfield 26, 3) := by decide +kernel
theorem dX8_token_95 : decode cX8_token 95 = .ok (.bipush 40, 2) := by decide +kernel
theorem dX8_token_97 : decode cX8_token 97 = .ok (.iload_n 1, 1) := by decide +kernel
theorem dX8_token_98 : decode cX8_token 98 = .ok (.imul, 1) := by decide +kernel
theorem dX8_token_99 : decode cX8_token 99 = .ok (.iload_n 2, 1) := by decide +kernel
theorem dX8_token_100 : decode cX8_token 100 = .ok (.iadd, 1) := by decide +kernel
theorem dX8_token_101 : decode cX8_token 101 = .ok (.laload, 1) := by decide +kernel
theorem dX8_token_102 : decode cX8_token 102 = .ok (.lreturn, 1) := by decide +kernel
theorem dX8_windows_0 : decode cX8_windows 0 = .ok (.iload_n 1, 1) := by decide +kernel
theorem dX8_windows_1 : decode cX8_windows 1 = .ok (.iconst 2, 1) := by decide +kernel
theorem dX8_windows_2 : decode cX8_windows 2 = .ok (.iconst 5, 1) := by decide +kernel
theorem dX8_windows_3 : decode cX8_windows 3 = .ok (.invokestatic 86, 3) := by decide +kernel
theorem dX8_windows_6 : decode cX8_windows 6 = .ok (.ifCond .eq 13, 3) := by decide +kernel
theorem dX8_windows_9 : decode cX8_windows 9 = .ok (.iload_n 2, 1) := by decide +kernel
theorem dX8_windows_10 : decode cX8_windows 10 = .ok (.iconst 1, 1) := by decide +kernel
theorem dX8_windows_11 : decode cX8_windows 11 = .ok (.bipush 8, 2) := by decide +kernel
theorem dX8_windows_13 : decode cX8_windows 13 = .ok (.invokestatic 86, 3) := by decide +kernel
theorem dX8_windows_16 : decode cX8_windows 16 = .ok (.ifCond .ne 5, 3) := by decide +kernel
theorem dX8_windows_19 : decode cX8_windows 19 = .ok (.iconst (-1), 1) := by decide +kernel
theorem dX8_windows_20 : decode cX8_windows 20 = .ok (.ireturn, 1) := by decide +kernel
theorem dX8_windows_21 : decode cX8_windows 21 = .ok (.aload_n 0, 1) := by decide +kernel
theorem dX8_windows_22 : decode cX8_windows 22 = .ok (.iload_n 1, 1) := by decide +kernel
theorem dX8_windows_23 : decode cX8_windows 23 = .ok (.putfield 30, 3) := by decide +kernel
theorem dX8_windows_26 : decode cX8_windows 26 = .ok (.aload_n 0, 1) := by decide +kernel
theorem dX8_windows_27 : decode cX8_windows 27 = .ok (.iload_n 2, 1) := by decide +kernel
theorem dX8_windows_28 : decode cX8_windows 28 = .ok (.putfield 34, 3) := by decide +kernel
theorem dX8_windows_31 : decode cX8_windows 31 = .ok (.iconst 1, 1) := by decide +kernel
theorem dX8_windows_32 : decode cX8_windows 32 = .ok (.ireturn, 1) := by decide +kernel
theorem dX8_gap_0 : decode cX8_gap 0 = .ok (.iload_n 1, 1) := by decide +kernel
theorem dX8_gap_1 : decode cX8_gap 1 = .ok (.iconst 0, 1) := by decide +kernel
theorem dX8_gap_2 : decode cX8_gap 2 = .ok (.bipush 20, 2) := by decide +kernel
theorem dX8_gap_4 : decode cX8_gap 4 = .ok (.invokestatic 86, 3) := by decide +kernel
theorem dX8_gap_7 : decode cX8_gap 7 = .ok (.ifCond .ne 5, 3) := by decide +kernel
theorem dX8_gap_10 : decode cX8_gap 10 = .ok (.iconst (-1), 1) := by decide +kernel
theorem dX8_gap_11 : decode cX8_gap 11 = .ok (.ireturn, 1) := by decide +kernel
theorem dX8_gap_12 : decode cX8_gap 12 = .ok (.aload_n 0, 1) := by decide +kernel
theorem dX8_gap_13 : decode cX8_gap 13 = .ok (.getfield 37, 3) := by decide +kernel
theorem dX8_gap_16 : decode cX8_gap 16 = .ok (.istore_n 2, 1) := by decide +kernel
theorem dX8_gap_17 : decode cX8_gap 17 = .ok (.aload_n 0, 1) := by decide +kernel
theorem dX8_gap_18 : decode cX8_gap 18 = .ok (.iload_n 1, 1) := by decide +kernel
theorem dX8_gap_19 : decode cX8_gap 19 = .ok (.putfield 37, 3) := by decide +kernel
theorem dX8_gap_22 : decode cX8_gap 22 = .ok (.iload_n 2, 1) := by decide +kernel
theorem dX8_gap_23 : decode cX8_gap 23 = .ok (.ireturn, 1) := by decide +kernel
theorem dX8_link_0 : decode cX8_link 0 = .ok (.iload_n 1, 1) := by decide +kernel
theorem dX8_link_1 : decode cX8_link 1 = .ok (.iconst 1, 1) := by decide +kernel
theorem dX8_link_2 : decode cX8_link 2 = .ok (.sipush 200, 3) := by decide +kernel
theorem dX8_link_5 : decode cX8_link 5 = .ok (.invokestatic 86, 3) := by decide +kernel
theorem dX8_link_8 : decode cX8_link 8 = .ok (.ifCond .ne 5, 3) := by decide +kernel
theorem dX8_link_11 : decode cX8_link 11 = .ok (.iconst (-1), 1) := by decide +kernel
theorem dX8_link_12 : decode cX8_link 12 = .ok (.ireturn, 1) := by decide +kernel
theorem dX8_link_13 : decode cX8_link 13 = .ok (.aload_n 0, 1) := by decide +kernel
theorem dX8_link_14 : decode cX8_link 14 = .ok (.getfield 40, 3) := by decide +kernel
theorem dX8_link_17 : decode cX8_link 17 = .ok (.istore_n 2, 1) := by decide +kernel
theorem dX8_link_18 : decode cX8_link 18 = .ok (.aload_n 0, 1) := by decide +kernel
theorem dX8_link_19 : decode cX8_link 19 = .ok (.iload_n 1, 1) := by decide +kernel
theorem dX8_link_20 : decode cX8_link 20 = .ok (.putfield 40, 3) := by decide +kernel
theorem dX8_link_23 : decode cX8_link 23 = .ok (.iload_n 2, 1) := by decide +kernel
theorem dX8_link_24 : decode cX8_link 24 = .ok (.ireturn, 1) := by decide +kernel
theorem dX8_given_0 : decode cX8_given 0 = .ok (.iload_n 1, 1) := by decide +kernel
theorem dX8_given_1 : decode cX8_given 1 = .ok (.iconst (-1), 1) := by decide +kernel
theorem dX8_given_2 : decode cX8_given 2 = .ok (.iconst 5, 1) := by decide +kernel
theorem dX8_given_3 : decode cX8_given 3 = .ok (.invokestatic 86, 3) := by decide +kernel
theorem dX8_given_6 : decode cX8_given 6 = .ok (.ifCond .ne 6, 3) := by decide +kernel
theorem dX8_given_9 : decode cX8_given 9 = .ok (.bipush (-11), 2) := by decide +kernel
theorem dX8_given_11 : decode cX8_given 11 = .ok (.ireturn, 1) := by decide +kernel
theorem dX8_given_12 : decode cX8_given 12 = .ok (.iload_n 1, 1) := by decide +kernel
theorem dX8_given_13 : decode cX8_given 13 = .ok (.ifCond .lt 15, 3) := by decide +kernel
theorem dX8_given_16 : decode cX8_given 16 = .ok (.aload_n 0, 1) := by decide +kernel
theorem dX8_given_17 : decode cX8_given 17 = .ok (.getfield 13, 3) := by decide +kernel
theorem dX8_given_20 : decode cX8_given 20 = .ok (.iload_n 1, 1) := by decide +kernel
theorem dX8_given_21 : decode cX8_given 21 = .ok (.baload, 1) := by decide +kernel
theorem dX8_given_22 : decode cX8_given 22 = .ok (.ifCond .ne 6, 3) := by decide +kernel
theorem dX8_given_25 : decode cX8_given 25 = .ok (.bipush (-12), 2) := by decide +kernel
theorem dX8_given_27 : decode cX8_given 27 = .ok (.ireturn, 1) := by decide +kernel
theorem dX8_given_28 : decode cX8_given 28 = .ok (.aload_n 0, 1) := by decide +kernel
theorem dX8_given_29 : decode cX8_given 29 = .ok (.getfield 43, 3) := by decide +kernel
theorem dX8_given_32 : decode cX8_given 32 = .ok (.istore_n 2, 1) := by decide +kernel
theorem dX8_given_33 : decode cX8_given 33 = .ok (.aload_n 0, 1) := by decide +kernel
theorem dX8_given_34 : decode cX8_given 34 = .ok (.iload_n 1, 1) := by decide +kernel
theorem dX8_given_35 : decode cX8_given 35 = .ok (.putfield 43, 3) := by decide +kernel
theorem dX8_given_38 : decode cX8_given 38 = .ok (.iload_n 2, 1) := by decide +kernel
theorem dX8_given_39 : decode cX8_given 39 = .ok (.ireturn, 1) := by decide +kernel
theorem dX8_grams_0 : decode cX8_grams 0 = .ok (.aload_n 0, 1) := by decide +kernel
theorem dX8_grams_1 : decode cX8_grams 1 = .ok (.getfield 17, 3) := by decide +kernel
theorem dX8_grams_4 : decode cX8_grams 4 = .ok (.iload_n 1, 1) := by decide +kernel
theorem dX8_grams_5 : decode cX8_grams 5 = .ok (.iaload, 1) := by decide +kernel
theorem dX8_grams_6 : decode cX8_grams 6 = .ok (.aload_n 0, 1) := by decide +kernel
theorem dX8_grams_7 : decode cX8_grams 7 = .ok (.getfield 30, 3) := by decide +kernel
theorem dX8_grams_10 : decode cX8_grams 10 = .ok (.if_icmp .ge 7, 3) := by decide +kernel
theorem dX8_grams_13 : decode cX8_grams 13 = .ok (.iconst 0, 1) := by decide +kernel
theorem dX8_grams_14 : decode cX8_grams 14 = .ok (.goto 16, 3) := by decide +kernel
theorem dX8_grams_17 : decode cX8_grams 17 = .ok (.aload_n 0, 1) := by decide +kernel
theorem dX8_grams_18 : decode cX8_grams 18 = .ok (.getfield 17, 3) := by decide +kernel
theorem dX8_grams_21 : decode cX8_grams 21 = .ok (.iload_n 1, 1) := by decide +kernel
theorem dX8_grams_22 : decode cX8_grams 22 = .ok (.iaload, 1) := by decide +kernel
theorem dX8_grams_23 : decode cX8_grams 23 = .ok (.aload_n 0, 1) := by decide +kernel
theorem dX8_grams_24 : decode cX8_grams 24 = .ok (.getfield 30, 3) := by decide +kernel
theorem dX8_grams_27 : decode cX8_grams 27 = .ok (.isub, 1) := by decide +kernel
theorem dX8_grams_28 : decode cX8_grams 28 = .ok (.iconst 1, 1) := by decide +kernel
theorem dX8_grams_29 : decode cX8_grams 29 = .ok (.iadd, 1) := by decide +kernel
theorem dX8_grams_30 : decode cX8_grams 30 = .ok (.ireturn, 1) := by decide +kernel
theorem dX8_hashOf_0 : decode cX8_hashOf 0 = .ok (.ldc2_w 119, 3) := by decide +kernel
theorem dX8_hashOf_3 : decode cX8_hashOf 3 = .ok (.lstore_n 3, 1) := by decide +kernel
theorem dX8_hashOf_4 : decode cX8_hashOf 4 = .ok (.iload_n 2, 1) := by decide +kernel
theorem dX8_hashOf_5 : decode cX8_hashOf 5 = .ok (.istore 5, 2) := by decide +kernel
theorem dX8_hashOf_7 : decode cX8_hashOf 7 = .ok (.iload 5, 2) := by decide +kernel
theorem dX8_hashOf_9 : decode cX8_hashOf 9 = .ok (.iload_n 2, 1) := by decide +kernel
theorem dX8_hashOf_10 : decode cX8_hashOf 10 = .ok (.aload_n 0, 1) := by decide +kernel
theorem dX8_hashOf_11 : decode cX8_hashOf 11 = .ok (.getfield 30, 3) := by decide +kernel
theorem dX8_hashOf_14 : decode cX8_hashOf 14 = .ok (.iadd, 1) := by decide +kernel
theorem dX8_hashOf_15 : decode cX8_hashOf 15 = .ok (.if_icmp .ge 32, 3) := by decide +kernel
theorem dX8_hashOf_18 : decode cX8_hashOf 18 = .ok (.lload_n 3, 1) := by decide +kernel
theorem dX8_hashOf_19 : decode cX8_hashOf 19 = .ok (.ldc2_w 135, 3) := by decide +kernel
theorem dX8_hashOf_22 : decode cX8_hashOf 22 = .ok (.lmul, 1) := by decide +kernel
theorem dX8_hashOf_23 : decode cX8_hashOf 23 = .ok (.aload_n 0, 1) := by decide +kernel
theorem dX8_hashOf_24 : decode cX8_hashOf 24 = .ok (.getfield 26, 3) := by decide +kernel
theorem dX8_hashOf_27 : decode cX8_hashOf 27 = .ok (.bipush 40, 2) := by decide +kernel
theorem dX8_hashOf_29 : decode cX8_hashOf 29 = .ok (.iload_n 1, 1) := by decide +kernel
theorem dX8_hashOf_30 : decode cX8_hashOf 30 = .ok (.imul, 1) := by decide +kernel
theorem dX8_hashOf_31 : decode cX8_hashOf 31 = .ok (.iload 5, 2) := by decide +kernel
theorem dX8_hashOf_33 : decode cX8_hashOf 33 = .ok (.iadd, 1) := by decide +kernel
theorem dX8_hashOf_34 : decode cX8_hashOf 34 = .ok (.laload, 1) := by decide +kernel
theorem dX8_hashOf_35 : decode cX8_hashOf 35 = .ok (.ladd, 1) := by decide +kernel
theorem dX8_hashOf_36 : decode cX8_hashOf 36 = .ok (.ldc2_w 137, 3) := by decide +kernel
theorem dX8_hashOf_39 : decode cX8_hashOf 39 = .ok (.lrem, 1) := by decide +kernel
theorem dX8_hashOf_40 : decode cX8_hashOf 40 = .ok (.lstore_n 3, 1) := by decide +kernel
theorem dX8_hashOf_41 : decode cX8_hashOf 41 = .ok (.iinc 5 1, 3) := by decide +kernel
theorem dX8_hashOf_44 : decode cX8_hashOf 44 = .ok (.goto (-37), 3) := by decide +kernel
theorem dX8_hashOf_47 : decode cX8_hashOf 47 = .ok (.lload_n 3, 1) := by decide +kernel
theorem dX8_hashOf_48 : decode cX8_hashOf 48 = .ok (.l2i, 1) := by decide +kernel
theorem dX8_hashOf_49 : decode cX8_hashOf 49 = .ok (.ireturn, 1) := by decide +kernel
theorem dX8_hash_0 : decode cX8_hash 0 = .ok (.iload_n 1, 1) := by decide +kernel
theorem dX8_hash_1 : decode cX8_hash 1 = .ok (.invokestatic 123, 3) := by decide +kernel
theorem dX8_hash_4 : decode cX8_hash 4 = .ok (.ifCond .ne 7, 3) := by decide +kernel
theorem dX8_hash_7 : decode cX8_hash 7 = .ok (.iconst (-1), 1) := by decide +kernel
theorem dX8_hash_8 : decode cX8_hash 8 = .ok (.goto 43, 3) := by decide +kernel
theorem dX8_hash_11 : decode cX8_hash 11 = .ok (.aload_n 0, 1) := by decide +kernel
theorem dX8_hash_12 : decode cX8_hash 12 = .ok (.getfield 13, 3) := by decide +kernel
theorem dX8_hash_15 : decode cX8_hash 15 = .ok (.iload_n 1, 1) := by decide +kernel
theorem dX8_hash_16 : decode cX8_hash 16 = .ok (.baload, 1) := by decide +kernel
theorem dX8_hash_17 : decode cX8_hash 17 = .ok (.ifCond .ne 8, 3) := by decide +kernel
theorem dX8_hash_20 : decode cX8_hash 20 = .ok (.bipush (-2), 2) := by decide +kernel
theorem dX8_hash_22 : decode cX8_hash 22 = .ok (.goto 29, 3) := by decide +kernel
theorem dX8_hash_25 : decode cX8_hash 25 = .ok (.iload_n 2, 1) := by decide +kernel
theorem dX8_hash_26 : decode cX8_hash 26 = .ok (.iconst 0, 1) := by decide +kernel
theorem dX8_hash_27 : decode cX8_hash 27 = .ok (.aload_n 0, 1) := by decide +kernel
theorem dX8_hash_28 : decode cX8_hash 28 = .ok (.iload_n 1, 1) := by decide +kernel
theorem dX8_hash_29 : decode cX8_hash 29 = .ok (.invokevirtual 139, 3) := by decide +kernel
theorem dX8_hash_32 : decode cX8_hash 32 = .ok (.iconst 1, 1) := by decide +kernel
theorem dX8_hash_33 : decode cX8_hash 33 = .ok (.isub, 1) := by decide +kernel
theorem dX8_hash_34 : decode cX8_hash 34 = .ok (.invokestatic 86, 3) := by decide +kernel
theorem dX8_hash_37 : decode cX8_hash 37 = .ok (.ifCond .eq 12, 3) := by decide +kernel
theorem dX8_hash_40 : decode cX8_hash 40 = .ok (.aload_n 0, 1) := by decide +kernel
theorem dX8_hash_41 : decode cX8_hash 41 = .ok (.iload_n 1, 1) := by decide +kernel
theorem dX8_hash_42 : decode cX8_hash 42 = .ok (.iload_n 2, 1) := by decide +kernel
theorem dX8_hash_43 : decode cX8_hash 43 = .ok (.invokevirtual 142, 3) := by decide +kernel
theorem dX8_hash_46 : decode cX8_hash 46 = .ok (.goto 5, 3) := by decide +kernel
theorem dX8_hash_49 : decode cX8_hash 49 = .ok (.bipush (-4), 2) := by decide +kernel
theorem dX8_hash_51 : decode cX8_hash 51 = .ok (.ireturn, 1) := by decide +kernel
theorem dX8_findMarks_0 : decode cX8_findMarks 0 = .ok (.aload_n 0, 1) := by decide +kernel
theorem dX8_findMarks_1 : decode cX8_findMarks 1 = .ok (.iload_n 1, 1) := by decide +kernel
theorem dX8_findMarks_2 : decode cX8_findMarks 2 = .ok (.invokevirtual 139, 3) := by decide +kernel
theorem dX8_findMarks_5 : decode cX8_findMarks 5 = .ok (.istore_n 2, 1) := by decide +kernel
theorem dX8_findMarks_6 : decode cX8_findMarks 6 = .ok (.iconst 0, 1) := by decide +kernel
theorem dX8_findMarks_7 : decode cX8_findMarks 7 = .ok (.istore_n 3, 1) := by decide +kernel
theorem dX8_findMarks_8 : decode cX8_findMarks 8 = .ok (.iload_n 3, 1) := by decide +kernel
theorem dX8_findMarks_9 : decode cX8_findMarks 9 = .ok (.bipush 40, 2) := by decide +kernel
theorem dX8_findMarks_11 : decode cX8_findMarks 11 = .ok (.if_icmp .ge 21, 3) := by decide +kernel
theorem dX8_findMarks_14 : decode cX8_findMarks 14 = .ok (.aload_n 0, 1) := by decide +kernel
theorem dX8_findMarks_15 : decode cX8_findMarks 15 = .ok (.getfield 59, 3) := by decide +kernel
theorem dX8_findMarks_18 : decode cX8_findMarks 18 = .ok (.bipush 40, 2) := by decide +kernel
theorem dX8_findMarks_20 : decode cX8_findMarks 20 = .ok (.iload_n 1, 1) := by decide +kernel
theorem dX8_findMarks_21 : decode cX8_findMarks 21 = .ok (.imul, 1) := by decide +kernel
theorem dX8_findMarks_22 : decode cX8_findMarks 22 = .ok (.iload_n 3, 1) := by decide +kernel
theorem dX8_findMarks_23 : decode cX8_findMarks 23 = .ok (.iadd, 1) := by decide +kernel
theorem dX8_findMarks_24 : decode cX8_findMarks 24 = .ok (.iconst 0, 1) := by decide +kernel
theorem dX8_findMarks_25 : decode cX8_findMarks 25 = .ok (.bastore, 1) := by decide +kernel
theorem dX8_findMarks_26 : decode cX8_findMarks 26 = .ok (.iinc 3 1, 3) := by decide +kernel
theorem dX8_findMarks_29 : decode cX8_findMarks 29 = .ok (.goto (-21), 3) := by decide +kernel
theorem dX8_findMarks_32 : decode cX8_findMarks 32 = .ok (.iconst 0, 1) := by decide +kernel
theorem dX8_findMarks_33 : decode cX8_findMarks 33 = .ok (.istore_n 3, 1) := by decide +kernel
theorem dX8_findMarks_34 : decode cX8_findMarks 34 = .ok (.iload_n 3, 1) := by decide +kernel
theorem dX8_findMarks_35 : decode cX8_findMarks 35 = .ok (.iload_n 2, 1) := by decide +kernel
theorem dX8_findMarks_36 : decode cX8_findMarks 36 = .ok (.if_icmp .ge 21, 3) := by decide +kernel
theorem dX8_findMarks_39 : decode cX8_findMarks 39 = .ok (.aload_n 0, 1) := by decide +kernel
theorem dX8_findMarks_40 : decode cX8_findMarks 40 = .ok (.getfield 62, 3) := by decide +kernel
theorem dX8_findMarks_43 : decode cX8_findMarks 43 = .ok (.iload_n 3, 1) := by decide +kernel
theorem dX8_findMarks_44 : decode cX8_findMarks 44 = .ok (.aload_n 0, 1) := by decide +kernel
theorem dX8_findMarks_45 : decode cX8_findMarks 45 = .ok (.iload_n 1, 1) := by decide +kernel
theorem dX8_findMarks_46 : decode cX8_findMarks 46 = .ok (.iload_n 3, 1) := by decide +kernel
theorem dX8_findMarks_47 : decode cX8_findMarks 47 = .ok (.invokevirtual 142, 3) := by decide +kernel
theorem dX8_findMarks_50 : decode cX8_findMarks 50 = .ok (.iastore, 1) := by decide +kernel
theorem dX8_findMarks_51 : decode cX8_findMarks 51 = .ok (.iinc 3 1, 3) := by decide +kernel
theorem dX8_findMarks_54 : decode cX8_findMarks 54 = .ok (.goto (-20), 3) := by decide +kernel
theorem dX8_findMarks_57 : decode cX8_findMarks 57 = .ok (.iconst 0, 1) := by decide +kernel
theorem dX8_findMarks_58 : decode cX8_findMarks 58 = .ok (.istore_n 3, 1) := by decide +kernel
theorem dX8_findMarks_59 : decode cX8_findMarks 59 = .ok (.iload_n 3, 1) := by decide +kernel
theorem dX8_findMarks_60 : decode cX8_findMarks 60 = .ok (.ifCond .ne 7, 3) := by decide +kernel
theorem dX8_findMarks_63 : decode cX8_findMarks 63 = .ok (.iload_n 2, 1) := by decide +kernel
theorem dX8_findMarks_64 : decode cX8_findMarks 64 = .ok (.ifCond .gt 13, 3) := by decide +kernel
theorem dX8_findMarks_67 : decode cX8_findMarks 67 = .ok (.iload_n 3, 1) := by decide +kernel
theorem dX8_findMarks_68 : decode cX8_findMarks 68 = .ok (.aload_n 0, 1) := by decide +kernel
theorem dX8_findMarks_69 : decode cX8_findMarks 69 = .ok (.getfield 34, 3) := by decide +kernel
theorem dX8_findMarks_72 : decode cX8_findMarks 72 = .ok (.iadd, 1) := by decide +kernel
theorem dX8_findMarks_73 : decode cX8_findMarks 73 = .ok (.iload_n 2, 1) := by decide +kernel
theorem dX8_findMarks_74 : decode cX8_findMarks 74 = .ok (.if_icmp .gt 79, 3) := by decide +kernel
theorem dX8_findMarks_77 : decode cX8_findMarks 77 = .ok (.iload_n 3, 1) := by decide +kernel
theorem dX8_findMarks_78 : decode cX8_findMarks 78 = .ok (.istore 4, 2) := by decide +kernel
theorem dX8_findMarks_80 : decode cX8_findMarks 80 = .ok (.iload_n 3, 1) := by decide +kernel
theorem dX8_findMarks_81 : decode cX8_findMarks 81 = .ok (.iconst 1, 1) := by decide +kernel
theorem dX8_findMarks_82 : decode cX8_findMarks 82 = .ok (.iadd, 1) := by decide +kernel
theorem dX8_findMarks_83 : decode cX8_findMarks 83 = .ok (.istore 5, 2) := by decide +kernel
theorem dX8_findMarks_85 : decode cX8_findMarks 85 = .ok (.iload 5, 2) := by decide +kernel
theorem dX8_findMarks_87 : decode cX8_findMarks 87 = .ok (.iload_n 3, 1) := by decide +kernel
theorem dX8_findMarks_88 : decode cX8_findMarks 88 = .ok (.aload_n 0, 1) := by decide +kernel
theorem dX8_findMarks_89 : decode cX8_findMarks 89 = .ok (.getfield 34, 3) := by decide +kernel
theorem dX8_findMarks_92 : decode cX8_findMarks 92 = .ok (.iadd, 1) := by decide +kernel
theorem dX8_findMarks_93 : decode cX8_findMarks 93 = .ok (.if_icmp .ge 41, 3) := by decide +kernel
theorem dX8_findMarks_96 : decode cX8_findMarks 96 = .ok (.iload 5, 2) := by decide +kernel
theorem dX8_findMarks_98 : decode cX8_findMarks 98 = .ok (.iload_n 2, 1) := by decide +kernel
theorem dX8_findMarks_99 : decode cX8_findMarks 99 = .ok (.if_icmp .ge 35, 3) := by decide +kernel
theorem dX8_findMarks_102 : decode cX8_findMarks 102 = .ok (.aload_n 0, 1) := by decide +kernel
theorem dX8_findMarks_103 : decode cX8_findMarks 103 = .ok (.getfield 62, 3) := by decide +kernel
theorem dX8_findMarks_106 : decode cX8_findMarks 106 = .ok (.iload 5, 2) := by decide +kernel
theorem dX8_findMarks_108 : decode cX8_findMarks 108 = .ok (.iaload, 1) := by decide +kernel
theorem dX8_findMarks_109 : decode cX8_findMarks 109 = .ok (.aload_n 0, 1) := by decide +kernel
theorem dX8_findMarks_110 : decode cX8_findMarks 110 = .ok (.getfield 62, 3) := by decide +kernel
theorem dX8_findMarks_113 : decode cX8_findMarks 113 = .ok (.iload 4, 2) := by decide +kernel
theorem dX8_findMarks_115 : decode cX8_findMarks 115 = .ok (.iaload, 1) := by decide +kernel
theorem dX8_findMarks_116 : decode cX8_findMarks 116 = .ok (.if_icmp .gt 8, 3) := by decide +kernel
theorem dX8_findMarks_119 : decode cX8_findMarks 119 = .ok (.iload 5, 2) := by decide +kernel
theorem dX8_findMarks_121 : decode cX8_findMarks 121 = .ok (.goto 5, 3) := by decide +kernel
theorem dX8_findMarks_124 : decode cX8_findMarks 124 = .ok (.iload 4, 2) := by decide +kernel
theorem dX8_findMarks_126 : decode cX8_findMarks 126 = .ok (.istore 4, 2) := by decide +kernel
theorem dX8_findMarks_128 : decode cX8_findMarks 128 = .ok (.iinc 5 1, 3) := by decide +kernel
theorem dX8_findMarks_131 : decode cX8_findMarks 131 = .ok (.goto (-46), 3) := by decide +kernel
theorem dX8_findMarks_134 : decode cX8_findMarks 134 = .ok (.aload_n 0, 1) := by decide +kernel
theorem dX8_findMarks_135 : decode cX8_findMarks 135 = .ok (.getfield 59, 3) := by decide +kernel
theorem dX8_findMarks_138 : decode cX8_findMarks 138 = .ok (.bipush 40, 2) := by decide +kernel
theorem dX8_findMarks_140 : decode cX8_findMarks 140 = .ok (.iload_n 1, 1) := by decide +kernel
theorem dX8_findMarks_141 : decode cX8_findMarks 141 = .ok (.imul, 1) := by decide +kernel
theorem dX8_findMarks_142 : decode cX8_findMarks 142 = .ok (.iload 4, 2) := by decide +kernel
theorem dX8_findMarks_144 : decode cX8_findMarks 144 = .ok (.iadd, 1) := by decide +kernel
theorem dX8_findMarks_145 : decode cX8_findMarks 145 = .ok (.iconst 1, 1) := by decide +kernel
theorem dX8_findMarks_146 : decode cX8_findMarks 146 = .ok (.bastore, 1) := by decide +kernel
theorem dX8_findMarks_147 : decode cX8_findMarks 147 = .ok (.iinc 3 1, 3) := by decide +kernel
theorem dX8_findMarks_150 : decode cX8_findMarks 150 = .ok (.goto (-91), 3) := by decide +kernel
theorem dX8_findMarks_153 : decode cX8_findMarks 153 = .ok (.return_, 1) := by decide +kernel
theorem dX8_markAt_0 : decode cX8_markAt 0 = .ok (.iload_n 1, 1) := by decide +kernel
theorem dX8_markAt_1 : decode cX8_markAt 1 = .ok (.invokestatic 123, 3) := by decide +kernel
theorem dX8_markAt_4 : decode cX8_markAt 4 = .ok (.ifCond .eq 8, 3) := by decide +kernel
theorem dX8_markAt_7 : decode cX8_markAt 7 = .ok (.iload_n 2, 1) := by decide +kernel
theorem dX8_markAt_8 : decode cX8_markAt 8 = .ok (.iconst (-1), 1) := by decide +kernel
theorem dX8_markAt_9 : decode cX8_markAt 9 = .ok (.if_icmp .ge 5, 3) := by decide +kernel
theorem dX8_markAt_12 : decode cX8_markAt 12 = .ok (.iconst (-1), 1) := by decide +kernel
theorem dX8_markAt_13 : decode cX8_markAt 13 = .ok (.ireturn, 1) := by decide +kernel
theorem dX8_markAt_14 : decode cX8_markAt 14 = .ok (.aload_n 0, 1) := by decide +kernel
theorem dX8_markAt_15 : decode cX8_markAt 15 = .ok (.getfield 13, 3) := by decide +kernel
theorem dX8_markAt_18 : decode cX8_markAt 18 = .ok (.iload_n 1, 1) := by decide +kernel
theorem dX8_markAt_19 : decode cX8_markAt 19 = .ok (.baload, 1) := by decide +kernel
theorem dX8_markAt_20 : decode cX8_markAt 20 = .ok (.ifCond .ne 6, 3) := by decide +kernel
theorem dX8_markAt_23 : decode cX8_markAt 23 = .ok (.bipush (-2), 2) := by decide +kernel
theorem dX8_markAt_25 : decode cX8_markAt 25 = .ok (.ireturn, 1) := by decide +kernel
theorem dX8_markAt_26 : decode cX8_markAt 26 = .ok (.aload_n 0, 1) := by decide +kernel
theorem dX8_markAt_27 : decode cX8_markAt 27 = .ok (.iload_n 1, 1) := by decide +kernel
theorem dX8_markAt_28 : decode cX8_markAt 28 = .ok (.invokevirtual 146, 3) := by decide +kernel
theorem dX8_markAt_31 : decode cX8_markAt 31 = .ok (.iconst 0, 1) := by decide +kernel
theorem dX8_markAt_32 : decode cX8_markAt 32 = .ok (.istore_n 3, 1) := by decide +kernel
theorem dX8_markAt_33 : decode cX8_markAt 33 = .ok (.iconst 0, 1) := by decide +kernel
theorem dX8_markAt_34 : decode cX8_markAt 34 = .ok (.istore 4, 2) := by decide +kernel
theorem dX8_markAt_36 : decode cX8_markAt 36 = .ok (.iload 4, 2) := by decide +kernel
theorem dX8_markAt_38 : decode cX8_markAt 38 = .ok (.bipush 40, 2) := by decide +kernel
theorem dX8_markAt_40 : decode cX8_markAt 40 = .ok (.if_icmp .ge 35, 3) := by decide +kernel
theorem dX8_markAt_43 : decode cX8_markAt 43 = .ok (.aload_n 0, 1) := by decide +kernel
theorem dX8_markAt_44 : decode cX8_markAt 44 = .ok (.getfield 59, 3) := by decide +kernel
theorem dX8_markAt_47 : decode cX8_markAt 47 = .ok (.bipush 40, 2) := by decide +kernel
theorem dX8_markAt_49 : decode cX8_markAt 49 = .ok (.iload_n 1, 1) := by decide +kernel
theorem dX8_markAt_50 : decode cX8_markAt 50 = .ok (.imul, 1) := by decide +kernel
theorem dX8_markAt_51 : decode cX8_markAt 51 = .ok (.iload 4, 2) := by decide +kernel
theorem dX8_markAt_53 : decode cX8_markAt 53 = .ok (.iadd, 1) := by decide +kernel
theorem dX8_markAt_54 : decode cX8_markAt 54 = .ok (.baload, 1) := by decide +kernel
theorem dX8_markAt_55 : decode cX8_markAt 55 = .ok (.ifCond .eq 14, 3) := by decide +kernel
theorem dX8_markAt_58 : decode cX8_markAt 58 = .ok (.iload_n 3, 1) := by decide +kernel
theorem dX8_markAt_59 : decode cX8_markAt 59 = .ok (.iload_n 2, 1) := by decide +kernel
theorem dX8_markAt_60 : decode cX8_markAt 60 = .ok (.if_icmp .ne 6, 3) := by decide +kernel
theorem dX8_markAt_63 : decode cX8_markAt 63 = .ok (.iload 4, 2) := by decide +kernel
theorem dX8_markAt_65 : decode cX8_markAt 65 = .ok (.ireturn, 1) := by decide +kernel
theorem dX8_markAt_66 : decode cX8_markAt 66 = .ok (.iinc 3 1, 3) := by decide +kernel
theorem dX8_markAt_69 : decode cX8_markAt 69 = .ok (.iinc 4 1, 3) := by decide +kernel
theorem dX8_markAt_72 : decode cX8_markAt 72 = .ok (.goto (-36), 3) := by decide +kernel
theorem dX8_markAt_75 : decode cX8_markAt 75 = .ok (.iload_n 2, 1) := by decide +kernel
theorem dX8_markAt_76 : decode cX8_markAt 76 = .ok (.ifCond .ge 7, 3) := by decide +kernel
theorem dX8_markAt_79 : decode cX8_markAt 79 = .ok (.iload_n 3, 1) := by decide +kernel
theorem dX8_markAt_80 : decode cX8_markAt 80 = .ok (.goto 4, 3) := by decide +kernel
theorem dX8_markAt_83 : decode cX8_markAt 83 = .ok (.iconst (-1), 1) := by decide +kernel
theorem dX8_markAt_84 : decode cX8_markAt 84 = .ok (.ireturn, 1) := by decide +kernel
theorem dX8_findAside_0 : decode cX8_findAside 0 = .ok (.iconst 0, 1) := by decide +kernel
theorem dX8_findAside_1 : decode cX8_findAside 1 = .ok (.istore_n 2, 1) := by decide +kernel
theorem dX8_findAside_2 : decode cX8_findAside 2 = .ok (.iload_n 2, 1) := by decide +kernel
theorem dX8_findAside_3 : decode cX8_findAside 3 = .ok (.bipush 40, 2) := by decide +kernel
theorem dX8_findAside_5 : decode cX8_findAside 5 = .ok (.if_icmp .ge 21, 3) := by decide +kernel
theorem dX8_findAside_8 : decode cX8_findAside 8 = .ok (.aload_n 0, 1) := by decide +kernel
theorem dX8_findAside_9 : decode cX8_findAside 9 = .ok (.getfield 65, 3) := by decide +kernel
theorem dX8_findAside_12 : decode cX8_findAside 12 = .ok (.bipush 40, 2) := by decide +kernel
theorem dX8_findAside_14 : decode cX8_findAside 14 = .ok (.iload_n 1, 1) := by decide +kernel
theorem dX8_findAside_15 : decode cX8_findAside 15 = .ok (.imul, 1) := by decide +kernel
theorem dX8_findAside_16 : decode cX8_findAside 16 = .ok (.iload_n 2, 1) := by decide +kernel
theorem dX8_findAside_17 : decode cX8_findAside 17 = .ok (.iadd, 1) := by decide +kernel
theorem dX8_findAside_18 : decode cX8_findAside 18 = .ok (.iconst 0, 1) := by decide +kernel
theorem dX8_findAside_19 : decode cX8_findAside 19 = .ok (.bastore, 1) := by decide +kernel
theorem dX8_findAside_20 : decode cX8_findAside 20 = .ok (.iinc 2 1, 3) := by decide +kernel
theorem dX8_findAside_23 : decode cX8_findAside 23 = .ok (.goto (-21), 3) := by decide +kernel
theorem dX8_findAside_26 : decode cX8_findAside 26 = .ok (.aload_n 0, 1) := by decide +kernel
theorem dX8_findAside_27 : decode cX8_findAside 27 = .ok (.getfield 43, 3) := by decide +kernel
theorem dX8_findAside_30 : decode cX8_findAside 30 = .ok (.ifCond .lt 29, 3) := by decide +kernel
theorem dX8_findAside_33 : decode cX8_findAside 33 = .ok (.aload_n 0, 1) := by decide +kernel
theorem dX8_findAside_34 : decode cX8_findAside 34 = .ok (.getfield 43, 3) := by decide +kernel
theorem dX8_findAside_37 : decode cX8_findAside 37 = .ok (.iload_n 1, 1) := by decide +kernel
theorem dX8_findAside_38 : decode cX8_findAside 38 = .ok (.if_icmp .eq 21, 3) := by decide +kernel
theorem dX8_findAside_41 : decode cX8_findAside 41 = .ok (.aload_n 0, 1) := by decide +kernel
theorem dX8_findAside_42 : decode cX8_findAside 42 = .ok (.getfield 20, 3) := by decide +kernel
theorem dX8_findAside_45 : decode cX8_findAside 45 = .ok (.aload_n 0, 1) := by decide +kernel
theorem dX8_findAside_46 : decode cX8_findAside 46 = .ok (.getfield 43, 3) := by decide +kernel
theorem dX8_findAside_49 : decode cX8_findAside 49 = .ok (.iaload, 1) := by decide +kernel
theorem dX8_findAside_50 : decode cX8_findAside 50 = .ok (.aload_n 0, 1) := by decide +kernel
theorem dX8_findAside_51 : decode cX8_findAside 51 = .ok (.getfield 20, 3) := by decide +kernel
theorem dX8_findAside_54 : decode cX8_findAside 54 = .ok (.iload_n 1, 1) := by decide +kernel
theorem dX8_findAside_55 : decode cX8_findAside 55 = .ok (.iaload, 1) := by decide +kernel
theorem dX8_findAside_56 : decode cX8_findAside 56 = .ok (.if_icmp .eq 4, 3) := by decide +kernel
theorem dX8_findAside_59 : decode cX8_findAside 59 = .ok (.return_, 1) := by decide +kernel
theorem dX8_findAside_60 : decode cX8_findAside 60 = .ok (.aload_n 0, 1) := by decide +kernel
theorem dX8_findAside_61 : decode cX8_findAside 61 = .ok (.getfield 34, 3) := by decide +kernel
theorem dX8_findAside_64 : decode cX8_findAside 64 = .ok (.aload_n 0, 1) := by decide +kernel
theorem dX8_findAside_65 : decode cX8_findAside 65 = .ok (.getfield 30, 3) := by decide +kernel
theorem dX8_findAside_68 : decode cX8_findAside 68 = .ok (.iadd, 1) := by decide +kernel
theorem dX8_findAside_69 : decode cX8_findAside 69 = .ok (.iconst 1, 1) := by decide +kernel
theorem dX8_findAside_70 : decode cX8_findAside 70 = .ok (.isub, 1) := by decide +kernel
theorem dX8_findAside_71 : decode cX8_findAside 71 = .ok (.istore_n 2, 1) := by decide +kernel
theorem dX8_findAside_72 : decode cX8_findAside 72 = .ok (.iconst 0, 1) := by decide +kernel
theorem dX8_findAside_73 : decode cX8_findAside 73 = .ok (.istore_n 3, 1) := by decide +kernel
theorem dX8_findAside_74 : decode cX8_findAside 74 = .ok (.iload_n 3, 1) := by decide +kernel
theorem dX8_findAside_75 : decode cX8_findAside 75 = .ok (.iload_n 2, 1) := by decide +kernel
theorem dX8_findAside_76 : decode cX8_findAside 76 = .ok (.iadd, 1) := by decide +kernel
theorem dX8_findAside_77 : decode cX8_findAside 77 = .ok (.aload_n 0, 1) := by decide +kernel
theorem dX8_findAside_78 : decode cX8_findAside 78 = .ok (.getfield 17, 3) := by decide +kernel
theorem dX8_findAside_81 : decode cX8_findAside 81 = .ok (.iload_n 1, 1) := by decide +kernel
theorem dX8_findAside_82 : decode cX8_findAside 82 = .ok (.iaload, 1) := by decide +kernel
theorem dX8_findAside_83 : decode cX8_findAside 83 = .ok (.if_icmp .gt 122, 3) := by decide +kernel
theorem dX8_findAside_86 : decode cX8_findAside 86 = .ok (.iconst 0, 1) := by decide +kernel
theorem dX8_findAside_87 : decode cX8_findAside 87 = .ok (.istore 4, 2) := by decide +kernel
theorem dX8_findAside_89 : decode cX8_findAside 89 = .ok (.iload 4, 2) := by decide +kernel
theorem dX8_findAside_91 : decode cX8_findAside 91 = .ok (.iload_n 2, 1) := by decide +kernel
theorem dX8_findAside_92 : decode cX8_findAside 92 = .ok (.iadd, 1) := by decide +kernel
theorem dX8_findAside_93 : decode cX8_findAside 93 = .ok (.aload_n 0, 1) := by decide +kernel
theorem dX8_findAside_94 : decode cX8_findAside 94 = .ok (.getfield 17, 3) := by decide +kernel
theorem dX8_findAside_97 : decode cX8_findAside 97 = .ok (.aload_n 0, 1) := by decide +kernel
theorem dX8_findAside_98 : decode cX8_findAside 98 = .ok (.getfield 43, 3) := by decide +kernel
theorem dX8_findAside_101 : decode cX8_findAside 101 = .ok (.iaload, 1) := by decide +kernel
theorem dX8_findAside_102 : decode cX8_findAside 102 = .ok (.if_icmp .gt 97, 3) := by decide +kernel
theorem dX8_findAside_105 : decode cX8_findAside 105 = .ok (.iconst 0, 1) := by decide +kernel
theorem dX8_findAside_106 : decode cX8_findAside 106 = .ok (.istore 5, 2) := by decide +kernel
theorem dX8_findAside_108 : decode cX8_findAside 108 = .ok (.iload 5, 2) := by decide +kernel
theorem dX8_findAside_110 : decode cX8_findAside 110 = .ok (.iload_n 2, 1) := by decide +kernel
theorem dX8_findAside_111 : decode cX8_findAside 111 = .ok (.if_icmp .ge 45, 3) := by decide +kernel
theorem dX8_findAside_114 : decode cX8_findAside 114 = .ok (.aload_n 0, 1) := by decide +kernel
theorem dX8_findAside_115 : decode cX8_findAside 115 = .ok (.getfield 26, 3) := by decide +kernel
theorem dX8_findAside_118 : decode cX8_findAside 118 = .ok (.bipush 40, 2) := by decide +kernel
theorem dX8_findAside_120 : decode cX8_findAside 120 = .ok (.iload_n 1, 1) := by decide +kernel
theorem dX8_findAside_121 : decode cX8_findAside 121 = .ok (.imul, 1) := by decide +kernel
theorem dX8_findAside_122 : decode cX8_findAside 122 = .ok (.iload_n 3, 1) := by decide +kernel
theorem dX8_findAside_123 : decode cX8_findAside 123 = .ok (.iadd, 1) := by decide +kernel
theorem dX8_findAside_124 : decode cX8_findAside 124 = .ok (.iload 5, 2) := by decide +kernel
theorem dX8_findAside_126 : decode cX8_findAside 126 = .ok (.iadd, 1) := by decide +kernel
theorem dX8_findAside_127 : decode cX8_findAside 127 = .ok (.laload, 1) := by decide +kernel
theorem dX8_findAside_128 : decode cX8_findAside 128 = .ok (.aload_n 0, 1) := by decide +kernel
theorem dX8_findAside_129 : decode cX8_findAside 129 = .ok (.getfield 26, 3) := by decide +kernel
theorem dX8_findAside_132 : decode cX8_findAside 132 = .ok (.bipush 40, 2) := by decide +kernel
theorem dX8_findAside_134 : decode cX8_findAside 134 = .ok (.aload_n 0, 1) := by decide +kernel
theorem dX8_findAside_135 : decode cX8_findAside 135 = .ok (.getfield 43, 3) := by decide +kernel
theorem dX8_findAside_138 : decode cX8_findAside 138 = .ok (.imul, 1) := by decide +kernel
theorem dX8_findAside_139 : decode cX8_findAside 139 = .ok (.iload 4, 2) := by decide +kernel
theorem dX8_findAside_141 : decode cX8_findAside 141 = .ok (.iadd, 1) := by decide +kernel
theorem dX8_findAside_142 : decode cX8_findAside 142 = .ok (.iload 5, 2) := by decide +kernel
theorem dX8_findAside_144 : decode cX8_findAside 144 = .ok (.iadd, 1) := by decide +kernel
theorem dX8_findAside_145 : decode cX8_findAside 145 = .ok (.laload, 1) := by decide +kernel
theorem dX8_findAside_146 : decode cX8_findAside 146 = .ok (.lcmp, 1) := by decide +kernel
theorem dX8_findAside_147 : decode cX8_findAside 147 = .ok (.ifCond .ne 9, 3) := by decide +kernel
theorem dX8_findAside_150 : decode cX8_findAside 150 = .ok (.iinc 5 1, 3) := by decide +kernel
theorem dX8_findAside_153 : decode cX8_findAside 153 = .ok (.goto (-45), 3) := by decide +kernel
theorem dX8_findAside_156 : decode cX8_findAside 156 = .ok (.iload_n 3, 1) := by decide +kernel
theorem dX8_findAside_157 : decode cX8_findAside 157 = .ok (.istore 6, 2) := by decide +kernel
theorem dX8_findAside_159 : decode cX8_findAside 159 = .ok (.iload 6, 2) := by decide +kernel
theorem dX8_findAside_161 : decode cX8_findAside 161 = .ok (.iload_n 3, 1) := by decide +kernel
theorem dX8_findAside_162 : decode cX8_findAside 162 = .ok (.iload 5, 2) := by decide +kernel
theorem dX8_findAside_164 : decode cX8_findAside 164 = .ok (.iadd, 1) := by decide +kernel
theorem dX8_findAside_165 : decode cX8_findAside 165 = .ok (.if_icmp .ge 28, 3) := by decide +kernel
theorem dX8_findAside_168 : decode cX8_findAside 168 = .ok (.iload 5, 2) := by decide +kernel
theorem dX8_findAside_170 : decode cX8_findAside 170 = .ok (.iload_n 2, 1) := by decide +kernel
theorem dX8_findAside_171 : decode cX8_findAside 171 = .ok (.if_icmp .ne 22, 3) := by decide +kernel
theorem dX8_findAside_174 : decode cX8_findAside 174 = .ok (.aload_n 0, 1) := by decide +kernel
theorem dX8_findAside_175 : decode cX8_findAside 175 = .ok (.getfield 65, 3) := by decide +kernel
theorem dX8_findAside_178 : decode cX8_findAside 178 = .ok (.bipush 40, 2) := by decide +kernel
theorem dX8_findAside_180 : decode cX8_findAside 180 = .ok (.iload_n 1, 1) := by decide +kernel
theorem dX8_findAside_181 : decode cX8_findAside 181 = .ok (.imul, 1) := by decide +kernel
theorem dX8_findAside_182 : decode cX8_findAside 182 = .ok (.iload 6, 2) := by decide +kernel
theorem dX8_findAside_184 : decode cX8_findAside 184 = .ok (.iadd, 1) := by decide +kernel
theorem dX8_findAside_185 : decode cX8_findAside 185 = .ok (.iconst 1, 1) := by decide +kernel
theorem dX8_findAside_186 : decode cX8_findAside 186 = .ok (.bastore, 1) := by decide +kernel
theorem dX8_findAside_187 : decode cX8_findAside 187 = .ok (.iinc 6 1, 3) := by decide +kernel
theorem dX8_findAside_190 : decode cX8_findAside 190 = .ok (.goto (-31), 3) := by decide +kernel
theorem dX8_findAside_193 : decode cX8_findAside 193 = .ok (.iinc 4 1, 3) := by decide +kernel
theorem dX8_findAside_196 : decode cX8_findAside 196 = .ok (.goto (-107), 3) := by decide +kernel
theorem dX8_findAside_199 : decode cX8_findAside 199 = .ok (.iinc 3 1, 3) := by decide +kernel
theorem dX8_findAside_202 : decode cX8_findAside 202 = .ok (.goto (-128), 3) := by decide +kernel
theorem dX8_findAside_205 : decode cX8_findAside 205 = .ok (.return_, 1) := by decide +kernel
theorem dX8_aside_0 : decode cX8_aside 0 = .ok (.iload_n 1, 1) := by decide +kernel
theorem dX8_aside_1 : decode cX8_aside 1 = .ok (.invokestatic 123, 3) := by decide +kernel
theorem dX8_aside_4 : decode cX8_aside 4 = .ok (.ifCond .eq 7, 3) := by decide +kernel
theorem dX8_aside_7 : decode cX8_aside 7 = .ok (.iload_n 2, 1) := by decide +kernel
theorem dX8_aside_8 : decode cX8_aside 8 = .ok (.ifCond .ge 5, 3) := by decide +kernel
theorem dX8_aside_11 : decode cX8_aside 11 = .ok (.iconst (-1), 1) := by decide +kernel
theorem dX8_aside_12 : decode cX8_aside 12 = .ok (.ireturn, 1) := by decide +kernel
theorem dX8_aside_13 : decode cX8_aside 13 = .ok (.aload_n 0, 1) := by decide +kernel
theorem dX8_aside_14 : decode cX8_aside 14 = .ok (.getfield 13, 3) := by decide +kernel
theorem dX8_aside_17 : decode cX8_aside 17 = .ok (.iload_n 1, 1) := by decide +kernel
theorem dX8_aside_18 : decode cX8_aside 18 = .ok (.baload, 1) := by decide +kernel
theorem dX8_aside_19 : decode cX8_aside 19 = .ok (.ifCond .ne 6, 3) := by decide +kernel
theorem dX8_aside_22 : decode cX8_aside 22 = .ok (.bipush (-2), 2) := by decide +kernel
theorem dX8_aside_24 : decode cX8_aside 24 = .ok (.ireturn, 1) := by decide +kernel
theorem dX8_aside_25 : decode cX8_aside 25 = .ok (.iload_n 2, 1) := by decide +kernel
theorem dX8_aside_26 : decode cX8_aside 26 = .ok (.aload_n 0, 1) := by decide +kernel
theorem dX8_aside_27 : decode cX8_aside 27 = .ok (.getfield 17, 3) := by decide +kernel
theorem dX8_aside_30 : decode cX8_aside 30 = .ok (.iload_n 1, 1) := by decide +kernel
theorem dX8_aside_31 : decode cX8_aside 31 = .ok (.iaload, 1) := by decide +kernel
theorem dX8_aside_32 : decode cX8_aside 32 = .ok (.if_icmp .lt 5, 3) := by decide +kernel
theorem dX8_aside_35 : decode cX8_aside 35 = .ok (.iconst (-1), 1) := by decide +kernel
theorem dX8_aside_36 : decode cX8_aside 36 = .ok (.ireturn, 1) := by decide +kernel
theorem dX8_aside_37 : decode cX8_aside 37 = .ok (.aload_n 0, 1) := by decide +kernel
theorem dX8_aside_38 : decode cX8_aside 38 = .ok (.iload_n 1, 1) := by decide +kernel
theorem dX8_aside_39 : decode cX8_aside 39 = .ok (.invokevirtual 150, 3) := by decide +kernel
theorem dX8_aside_42 : decode cX8_aside 42 = .ok (.aload_n 0, 1) := by decide +kernel
theorem dX8_aside_43 : decode cX8_aside 43 = .ok (.getfield 65, 3) := by decide +kernel
theorem dX8_aside_46 : decode cX8_aside 46 = .ok (.bipush 40, 2) := by decide +kernel
theorem dX8_aside_48 : decode cX8_aside 48 = .ok (.iload_n 1, 1) := by decide +kernel
theorem dX8_aside_49 : decode cX8_aside 49 = .ok (.imul, 1) := by decide +kernel
theorem dX8_aside_50 : decode cX8_aside 50 = .ok (.iload_n 2, 1) := by decide +kernel
theorem dX8_aside_51 : decode cX8_aside 51 = .ok (.iadd, 1) := by decide +kernel
theorem dX8_aside_52 : decode cX8_aside 52 = .ok (.baload, 1) := by decide +kernel
theorem dX8_aside_53 : decode cX8_aside 53 = .ok (.ifCond .eq 7, 3) := by decide +kernel
theorem dX8_aside_56 : decode cX8_aside 56 = .ok (.iconst 1, 1) := by decide +kernel
theorem dX8_aside_57 : decode cX8_aside 57 = .ok (.goto 4, 3) := by decide +kernel
theorem dX8_aside_60 : decode cX8_aside 60 = .ok (.iconst 0, 1) := by decide +kernel
theorem dX8_aside_61 : decode cX8_aside 61 = .ok (.ireturn, 1) := by decide +kernel
theorem dX8_isAlike_0 : decode cX8_isAlike 0 = .ok (.iload_n 3, 1) := by decide +kernel
theorem dX8_isAlike_1 : decode cX8_isAlike 1 = .ok (.iconst 0, 1) := by decide +kernel
theorem dX8_isAlike_2 : decode cX8_isAlike 2 = .ok (.aload_n 0, 1) := by decide +kernel
theorem dX8_isAlike_3 : decode cX8_isAlike 3 = .ok (.getfield 17, 3) := by decide +kernel
theorem dX8_isAlike_6 : decode cX8_isAlike 6 = .ok (.iload_n 1, 1) := by decide +kernel
theorem dX8_isAlike_7 : decode cX8_isAlike 7 = .ok (.iaload, 1) := by decide +kernel
theorem dX8_isAlike_8 : decode cX8_isAlike 8 = .ok (.iconst 1, 1) := by decide +kernel
theorem dX8_isAlike_9 : decode cX8_isAlike 9 = .ok (.isub, 1) := by decide +kernel
theorem dX8_isAlike_10 : decode cX8_isAlike 10 = .ok (.invokestatic 86, 3) := by decide +kernel
theorem dX8_isAlike_13 : decode cX8_isAlike 13 = .ok (.ifCond .eq 20, 3) := by decide +kernel
theorem dX8_isAlike_16 : decode cX8_isAlike 16 = .ok (.iload 4, 2) := by decide +kernel
theorem dX8_isAlike_18 : decode cX8_isAlike 18 = .ok (.iconst 0, 1) := by decide +kernel
theorem dX8_isAlike_19 : decode cX8_isAlike 19 = .ok (.aload_n 0, 1) := by decide +kernel
theorem dX8_isAlike_20 : decode cX8_isAlike 20 = .ok (.getfield 17, 3) := by decide +kernel
theorem dX8_isAlike_23 : decode cX8_isAlike 23 = .ok (.iload_n 2, 1) := by decide +kernel
theorem dX8_isAlike_24 : decode cX8_isAlike 24 = .ok (.iaload, 1) := by decide +kernel
theorem dX8_isAlike_25 : decode cX8_isAlike 25 = .ok (.iconst 1, 1) := by decide +kernel
theorem dX8_isAlike_26 : decode cX8_isAlike 26 = .ok (.isub, 1) := by decide +kernel
theorem dX8_isAlike_27 : decode cX8_isAlike 27 = .ok (.invokestatic 86, 3) := by decide +kernel
theorem dX8_isAlike_30 : decode cX8_isAlike 30 = .ok (.ifCond .ne 5, 3) := by decide +kernel
theorem dX8_isAlike_33 : decode cX8_isAlike 33 = .ok (.iconst 0, 1) := by decide +kernel
theorem dX8_isAlike_34 : decode cX8_isAlike 34 = .ok (.ireturn, 1) := by decide +kernel
theorem dX8_isAlike_35 : decode cX8_isAlike 35 = .ok (.bipush 40, 2) := by decide +kernel
theorem dX8_isAlike_37 : decode cX8_isAlike 37 = .ok (.iload_n 1, 1) := by decide +kernel
theorem dX8_isAlike_38 : decode cX8_isAlike 38 = .ok (.imul, 1) := by decide +kernel
theorem dX8_isAlike_39 : decode cX8_isAlike 39 = .ok (.iload_n 3, 1) := by decide +kernel
theorem dX8_isAlike_40 : decode cX8_isAlike 40 = .ok (.iadd, 1) := by decide +kernel
theorem dX8_isAlike_41 : decode cX8_isAlike 41 = .ok (.istore 5, 2) := by decide +kernel
theorem dX8_isAlike_43 : decode cX8_isAlike 43 = .ok (.bipush 40, 2) := by decide +kernel
theorem dX8_isAlike_45 : decode cX8_isAlike 45 = .ok (.iload_n 2, 1) := by decide +kernel
theorem dX8_isAlike_46 : decode cX8_isAlike 46 = .ok (.imul, 1) := by decide +kernel
theorem dX8_isAlike_47 : decode cX8_isAlike 47 = .ok (.iload 4, 2) := by decide +kernel
theorem dX8_isAlike_49 : decode cX8_isAlike 49 = .ok (.iadd, 1) := by decide +kernel
theorem dX8_isAlike_50 : decode cX8_isAlike 50 = .ok (.istore 6, 2) := by decide +kernel
theorem dX8_isAlike_52 : decode cX8_isAlike 52 = .ok (.aload_n 0, 1) := by decide +kernel
theorem dX8_isAlike_53 : decode cX8_isAlike 53 = .ok (.getfield 26, 3) := by decide +kernel
theorem dX8_isAlike_56 : decode cX8_isAlike 56 = .ok (.iload 5, 2) := by decide +kernel
theorem dX8_isAlike_58 : decode cX8_isAlike 58 = .ok (.laload, 1) := by decide +kernel
theorem dX8_isAlike_59 : decode cX8_isAlike 59 = .ok (.aload_n 0, 1) := by decide +kernel
theorem dX8_isAlike_60 : decode cX8_isAlike 60 = .ok (.getfield 26, 3) := by decide +kernel
theorem dX8_isAlike_63 : decode cX8_isAlike 63 = .ok (.iload 6, 2) := by decide +kernel
theorem dX8_isAlike_65 : decode cX8_isAlike 65 = .ok (.laload, 1) := by decide +kernel
theorem dX8_isAlike_66 : decode cX8_isAlike 66 = .ok (.lcmp, 1) := by decide +kernel
theorem dX8_isAlike_67 : decode cX8_isAlike 67 = .ok (.ifCond .ne 27, 3) := by decide +kernel
theorem dX8_isAlike_70 : decode cX8_isAlike 70 = .ok (.aload_n 0, 1) := by decide +kernel
theorem dX8_isAlike_71 : decode cX8_isAlike 71 = .ok (.getfield 65, 3) := by decide +kernel
theorem dX8_isAlike_74 : decode cX8_isAlike 74 = .ok (.iload 5, 2) := by decide +kernel
theorem dX8_isAlike_76 : decode cX8_isAlike 76 = .ok (.baload, 1) := by decide +kernel
theorem dX8_isAlike_77 : decode cX8_isAlike 77 = .ok (.ifCond .ne 17, 3) := by decide +kernel
theorem dX8_isAlike_80 : decode cX8_isAlike 80 = .ok (.aload_n 0, 1) := by decide +kernel
theorem dX8_isAlike_81 : decode cX8_isAlike 81 = .ok (.getfield 65, 3) := by decide +kernel
theorem dX8_isAlike_84 : decode cX8_isAlike 84 = .ok (.iload 6, 2) := by decide +kernel
theorem dX8_isAlike_86 : decode cX8_isAlike 86 = .ok (.baload, 1) := by decide +kernel
theorem dX8_isAlike_87 : decode cX8_isAlike 87 = .ok (.ifCond .ne 7, 3) := by decide +kernel
theorem dX8_isAlike_90 : decode cX8_isAlike 90 = .ok (.iconst 1, 1) := by decide +kernel
theorem dX8_isAlike_91 : decode cX8_isAlike 91 = .ok (.goto 4, 3) := by decide +kernel
theorem dX8_isAlike_94 : decode cX8_isAlike 94 = .ok (.iconst 0, 1) := by decide +kernel
theorem dX8_isAlike_95 : decode cX8_isAlike 95 = .ok (.ireturn, 1) := by decide +kernel
theorem dX8_findRuns_0 : decode cX8_findRuns 0 = .ok (.aload_n 0, 1) := by decide +kernel
theorem dX8_findRuns_1 : decode cX8_findRuns 1 = .ok (.iconst 0, 1) := by decide +kernel
theorem dX8_findRuns_2 : decode cX8_findRuns 2 = .ok (.putfield 153, 3) := by decide +kernel
theorem dX8_findRuns_5 : decode cX8_findRuns 5 = .ok (.aload_n 0, 1) := by decide +kernel
theorem dX8_findRuns_6 : decode cX8_findRuns 6 = .ok (.getfield 20, 3) := by decide +kernel
theorem dX8_findRuns_9 : decode cX8_findRuns 9 = .ok (.iload_n 1, 1) := by decide +kernel
theorem dX8_findRuns_10 : decode cX8_findRuns 10 = .ok (.iaload, 1) := by decide +kernel
theorem dX8_findRuns_11 : decode cX8_findRuns 11 = .ok (.aload_n 0, 1) := by decide +kernel
theorem dX8_findRuns_12 : decode cX8_findRuns 12 = .ok (.getfield 20, 3) := by decide +kernel
theorem dX8_findRuns_15 : decode cX8_findRuns 15 = .ok (.iload_n 2, 1) := by decide +kernel
theorem dX8_findRuns_16 : decode cX8_findRuns 16 = .ok (.iaload, 1) := by decide +kernel
theorem dX8_findRuns_17 : decode cX8_findRuns 17 = .ok (.if_icmp .eq 4, 3) := by decide +kernel
theorem dX8_findRuns_20 : decode cX8_findRuns 20 = .ok (.return_, 1) := by decide +kernel
theorem dX8_findRuns_21 : decode cX8_findRuns 21 = .ok (.aload_n 0, 1) := by decide +kernel
theorem dX8_findRuns_22 : decode cX8_findRuns 22 = .ok (.iload_n 1, 1) := by decide +kernel
theorem dX8_findRuns_23 : decode cX8_findRuns 23 = .ok (.invokevirtual 150, 3) := by decide +kernel
theorem dX8_findRuns_26 : decode cX8_findRuns 26 = .ok (.aload_n 0, 1) := by decide +kernel
theorem dX8_findRuns_27 : decode cX8_findRuns 27 = .ok (.iload_n 2, 1) := by decide +kernel
theorem dX8_findRuns_28 : decode cX8_findRuns 28 = .ok (.invokevirtual 150, 3) := by decide +kernel
theorem dX8_findRuns_31 : decode cX8_findRuns 31 = .ok (.aload_n 0, 1) := by decide +kernel
theorem dX8_findRuns_32 : decode cX8_findRuns 32 = .ok (.iload_n 1, 1) := by decide +kernel
theorem dX8_findRuns_33 : decode cX8_findRuns 33 = .ok (.invokevirtual 146, 3) := by decide +kernel
theorem dX8_findRuns_36 : decode cX8_findRuns 36 = .ok (.aload_n 0, 1) := by decide +kernel
theorem dX8_findRuns_37 : decode cX8_findRuns 37 = .ok (.iload_n 2, 1) := by decide +kernel
theorem dX8_findRuns_38 : decode cX8_findRuns 38 = .ok (.invokevirtual 146, 3) := by decide +kernel
theorem dX8_findRuns_41 : decode cX8_findRuns 41 = .ok (.iconst 0, 1) := by decide +kernel
theorem dX8_findRuns_42 : decode cX8_findRuns 42 = .ok (.istore_n 3, 1) := by decide +kernel
theorem dX8_findRuns_43 : decode cX8_findRuns 43 = .ok (.iload_n 3, 1) := by decide +kernel
theorem dX8_findRuns_44 : decode cX8_findRuns 44 = .ok (.aload_n 0, 1) := by decide +kernel
theorem dX8_findRuns_45 : decode cX8_findRuns 45 = .ok (.getfield 17, 3) := by decide +kernel
theorem dX8_findRuns_48 : decode cX8_findRuns 48 = .ok (.iload_n 1, 1) := by decide +kernel
theorem dX8_findRuns_49 : decode cX8_findRuns 49 = .ok (.iaload, 1) := by decide +kernel
theorem dX8_findRuns_50 : decode cX8_findRuns 50 = .ok (.if_icmp .ge 202, 3) := by decide +kernel
theorem dX8_findRuns_53 : decode cX8_findRuns 53 = .ok (.iconst 0, 1) := by decide +kernel
theorem dX8_findRuns_54 : decode cX8_findRuns 54 = .ok (.istore 4, 2) := by decide +kernel
theorem dX8_findRuns_56 : decode cX8_findRuns 56 = .ok (.iload 4, 2) := by decide +kernel
theorem dX8_findRuns_58 : decode cX8_findRuns 58 = .ok (.aload_n 0, 1) := by decide +kernel
theorem dX8_findRuns_59 : decode cX8_findRuns 59 = .ok (.getfield 17, 3) := by decide +kernel
theorem dX8_findRuns_62 : decode cX8_findRuns 62 = .ok (.iload_n 2, 1) := by decide +kernel
theorem dX8_findRuns_63 : decode cX8_findRuns 63 = .ok (.iaload, 1) := by decide +kernel
theorem dX8_findRuns_64 : decode cX8_findRuns 64 = .ok (.if_icmp .ge 182, 3) := by decide +kernel
theorem dX8_findRuns_67 : decode cX8_findRuns 67 = .ok (.aload_n 0, 1) := by decide +kernel
theorem dX8_findRuns_68 : decode cX8_findRuns 68 = .ok (.iload_n 1, 1) := by decide +kernel
theorem dX8_findRuns_69 : decode cX8_findRuns 69 = .ok (.iload_n 2, 1) := by decide +kernel
theorem dX8_findRuns_70 : decode cX8_findRuns 70 = .ok (.iload_n 3, 1) := by decide +kernel
theorem dX8_findRuns_71 : decode cX8_findRuns 71 = .ok (.iload 4, 2) := by decide +kernel
theorem dX8_findRuns_73 : decode cX8_findRuns 73 = .ok (.invokevirtual 156, 3) := by decide +kernel
theorem dX8_findRuns_76 : decode cX8_findRuns 76 = .ok (.ifCond .eq 164, 3) := by decide +kernel
theorem dX8_findRuns_79 : decode cX8_findRuns 79 = .ok (.aload_n 0, 1) := by decide +kernel
theorem dX8_findRuns_80 : decode cX8_findRuns 80 = .ok (.iload_n 1, 1) := by decide +kernel
theorem dX8_findRuns_81 : decode cX8_findRuns 81 = .ok (.iload_n 2, 1) := by decide +kernel
theorem dX8_findRuns_82 : decode cX8_findRuns 82 = .ok (.iload_n 3, 1) := by decide +kernel
theorem dX8_findRuns_83 : decode cX8_findRuns 83 = .ok (.iconst 1, 1) := by decide +kernel
theorem dX8_findRuns_84 : decode cX8_findRuns 84 = .ok (.isub, 1) := by decide +kernel
theorem dX8_findRuns_85 : decode cX8_findRuns 85 = .ok (.iload 4, 2) := by decide +kernel
theorem dX8_findRuns_87 : decode cX8_findRuns 87 = .ok (.iconst 1, 1) := by decide +kernel
theorem dX8_findRuns_88 : decode cX8_findRuns 88 = .ok (.isub, 1) := by decide +kernel
theorem dX8_findRuns_89 : decode cX8_findRuns 89 = .ok (.invokevirtual 156, 3) := by decide +kernel
theorem dX8_findRuns_92 : decode cX8_findRuns 92 = .ok (.ifCond .ne 148, 3) := by decide +kernel
theorem dX8_findRuns_95 : decode cX8_findRuns 95 = .ok (.iconst 1, 1) := by decide +kernel
theorem dX8_findRuns_96 : decode cX8_findRuns 96 = .ok (.istore 5, 2) := by decide +kernel
theorem dX8_findRuns_98 : decode cX8_findRuns 98 = .ok (.aload_n 0, 1) := by decide +kernel
theorem dX8_findRuns_99 : decode cX8_findRuns 99 = .ok (.iload_n 1, 1) := by decide +kernel
theorem dX8_findRuns_100 : decode cX8_findRuns 100 = .ok (.iload_n 2, 1) := by decide +kernel
theorem dX8_findRuns_101 : decode cX8_findRuns 101 = .ok (.iload_n 3, 1) := by decide +kernel
theorem dX8_findRuns_102 : decode cX8_findRuns 102 = .ok (.iload 5, 2) := by decide +kernel
theorem dX8_findRuns_104 : decode cX8_findRuns 104 = .ok (.iadd, 1) := by decide +kernel
theorem dX8_findRuns_105 : decode cX8_findRuns 105 = .ok (.iload 4, 2) := by decide +kernel
theorem dX8_findRuns_107 : decode cX8_findRuns 107 = .ok (.iload 5, 2) := by decide +kernel
theorem dX8_findRuns_109 : decode cX8_findRuns 109 = .ok (.iadd, 1) := by decide +kernel
theorem dX8_findRuns_110 : decode cX8_findRuns 110 = .ok (.invokevirtual 156, 3) := by decide +kernel
theorem dX8_findRuns_113 : decode cX8_findRuns 113 = .ok (.ifCond .eq 9, 3) := by decide +kernel
theorem dX8_findRuns_116 : decode cX8_findRuns 116 = .ok (.iinc 5 1, 3) := by decide +kernel
theorem dX8_findRuns_119 : decode cX8_findRuns 119 = .ok (.goto (-21), 3) := by decide +kernel
theorem dX8_findRuns_122 : decode cX8_findRuns 122 = .ok (.iconst 0, 1) := by decide +kernel
theorem dX8_findRuns_123 : decode cX8_findRuns 123 = .ok (.istore 6, 2) := by decide +kernel
theorem dX8_findRuns_125 : decode cX8_findRuns 125 = .ok (.iconst 0, 1) := by decide +kernel
theorem dX8_findRuns_126 : decode cX8_findRuns 126 = .ok (.istore 7, 2) := by decide +kernel
theorem dX8_findRuns_128 : decode cX8_findRuns 128 = .ok (.iload 7, 2) := by decide +kernel
theorem dX8_findRuns_130 : decode cX8_findRuns 130 = .ok (.aload_n 0, 1) := by decide +kernel
theorem dX8_findRuns_131 : decode cX8_findRuns 131 = .ok (.getfield 30, 3) := by decide +kernel
theorem dX8_findRuns_134 : decode cX8_findRuns 134 = .ok (.iadd, 1) := by decide +kernel
theorem dX8_findRuns_135 : decode cX8_findRuns 135 = .ok (.iload 5, 2) := by decide +kernel
theorem dX8_findRuns_137 : decode cX8_findRuns 137 = .ok (.if_icmp .gt 56, 3) := by decide +kernel
theorem dX8_findRuns_140 : decode cX8_findRuns 140 = .ok (.iload 6, 2) := by decide +kernel
theorem dX8_findRuns_142 : decode cX8_findRuns 142 = .ok (.ifCond .ne 38, 3) := by decide +kernel
theorem dX8_findRuns_145 : decode cX8_findRuns 145 = .ok (.aload_n 0, 1) := by decide +kernel
theorem dX8_findRuns_146 : decode cX8_findRuns 146 = .ok (.getfield 59, 3) := by decide +kernel
theorem dX8_findRuns_149 : decode cX8_findRuns 149 = .ok (.bipush 40, 2) := by decide +kernel
theorem dX8_findRuns_151 : decode cX8_findRuns 151 = .ok (.iload_n 1, 1) := by decide +kernel
theorem dX8_findRuns_152 : decode cX8_findRuns 152 = .ok (.imul, 1) := by decide +kernel
theorem dX8_findRuns_153 : decode cX8_findRuns 153 = .ok (.iload_n 3, 1) := by decide +kernel
theorem dX8_findRuns_154 : decode cX8_findRuns 154 = .ok (.iadd, 1) := by decide +kernel
theorem dX8_findRuns_155 : decode cX8_findRuns 155 = .ok (.iload 7, 2) := by decide +kernel
theorem dX8_findRuns_157 : decode cX8_findRuns 157 = .ok (.iadd, 1) := by decide +kernel
theorem dX8_findRuns_158 : decode cX8_findRuns 158 = .ok (.baload, 1) := by decide +kernel
theorem dX8_findRuns_159 : decode cX8_findRuns 159 = .ok (.ifCond .eq 25, 3) := by decide +kernel
theorem dX8_findRuns_162 : decode cX8_findRuns 162 = .ok (.aload_n 0, 1) := by decide +kernel
theorem dX8_findRuns_163 : decode cX8_findRuns 163 = .ok (.getfield 59, 3) := by decide +kernel
theorem dX8_findRuns_166 : decode cX8_findRuns 166 = .ok (.bipush 40, 2) := by decide +kernel
theorem dX8_findRuns_168 : decode cX8_findRuns 168 = .ok (.iload_n 2, 1) := by decide +kernel
theorem dX8_findRuns_169 : decode cX8_findRuns 169 = .ok (.imul, 1) := by decide +kernel
theorem dX8_findRuns_170 : decode cX8_findRuns 170 = .ok (.iload 4, 2) := by decide +kernel
theorem dX8_findRuns_172 : decode cX8_findRuns 172 = .ok (.iadd, 1) := by decide +kernel
theorem dX8_findRuns_173 : decode cX8_findRuns 173 = .ok (.iload 7, 2) := by decide +kernel
theorem dX8_findRuns_175 : decode cX8_findRuns 175 = .ok (.iadd, 1) := by decide +kernel
theorem dX8_findRuns_176 : decode cX8_findRuns 176 = .ok (.baload, 1) := by decide +kernel
theorem dX8_findRuns_177 : decode cX8_findRuns 177 = .ok (.ifCond .eq 7, 3) := by decide +kernel
theorem dX8_findRuns_180 : decode cX8_findRuns 180 = .ok (.iconst 1, 1) := by decide +kernel
theorem dX8_findRuns_181 : decode cX8_findRuns 181 = .ok (.goto 4, 3) := by decide +kernel
theorem dX8_findRuns_184 : decode cX8_findRuns 184 = .ok (.iconst 0, 1) := by decide +kernel
theorem dX8_findRuns_185 : decode cX8_findRuns 185 = .ok (.istore 6, 2) := by decide +kernel
theorem dX8_findRuns_187 : decode cX8_findRuns 187 = .ok (.iinc 7 1, 3) := by decide +kernel
theorem dX8_findRuns_190 : decode cX8_findRuns 190 = .ok (.goto (-62), 3) := by decide +kernel
theorem dX8_findRuns_193 : decode cX8_findRuns 193 = .ok (.iload 6, 2) := by decide +kernel
theorem dX8_findRuns_195 : decode cX8_findRuns 195 = .ok (.ifCond .eq 45, 3) := by decide +kernel
theorem dX8_findRuns_198 : decode cX8_findRuns 198 = .ok (.aload_n 0, 1) := by decide +kernel
theorem dX8_findRuns_199 : decode cX8_findRuns 199 = .ok (.getfield 68, 3) := by decide +kernel
theorem dX8_findRuns_202 : decode cX8_findRuns 202 = .ok (.aload_n 0, 1) := by decide +kernel
theorem dX8_findRuns_203 : decode cX8_findRuns 203 = .ok (.getfield 153, 3) := by decide +kernel
theorem dX8_findRuns_206 : decode cX8_findRuns 206 = .ok (.iload_n 3, 1) := by decide +kernel
theorem dX8_findRuns_207 : decode cX8_findRuns 207 = .ok (.iastore, 1) := by decide +kernel
theorem dX8_findRuns_208 : decode cX8_findRuns 208 = .ok (.aload_n 0, 1) := by decide +kernel
theorem dX8_findRuns_209 : decode cX8_findRuns 209 = .ok (.getfield 71, 3) := by decide +kernel
theorem dX8_findRuns_212 : decode cX8_findRuns 212 = .ok (.aload_n 0, 1) := by decide +kernel
theorem dX8_findRuns_213 : decode cX8_findRuns 213 = .ok (.getfield 153, 3) := by decide +kernel
theorem dX8_findRuns_216 : decode cX8_findRuns 216 = .ok (.iload 4, 2) := by decide +kernel
theorem dX8_findRuns_218 : decode cX8_findRuns 218 = .ok (.iastore, 1) := by decide +kernel
theorem dX8_findRuns_219 : decode cX8_findRuns 219 = .ok (.aload_n 0, 1) := by decide +kernel
theorem dX8_findRuns_220 : decode cX8_findRuns 220 = .ok (.getfield 74, 3) := by decide +kernel
theorem dX8_findRuns_223 : decode cX8_findRuns 223 = .ok (.aload_n 0, 1) := by decide +kernel
theorem dX8_findRuns_224 : decode cX8_findRuns 224 = .ok (.getfield 153, 3) := by decide +kernel
theorem dX8_findRuns_227 : decode cX8_findRuns 227 = .ok (.iload 5, 2) := by decide +kernel
theorem dX8_findRuns_229 : decode cX8_findRuns 229 = .ok (.iastore, 1) := by decide +kernel
theorem dX8_findRuns_230 : decode cX8_findRuns 230 = .ok (.aload_n 0, 1) := by decide +kernel
theorem dX8_findRuns_231 : decode cX8_findRuns 231 = .ok (.dup, 1) := by decide +kernel
theorem dX8_findRuns_232 : decode cX8_findRuns 232 = .ok (.getfield 153, 3) := by decide +kernel
theorem dX8_findRuns_235 : decode cX8_findRuns 235 = .ok (.iconst 1, 1) := by decide +kernel
theorem dX8_findRuns_236 : decode cX8_findRuns 236 = .ok (.iadd, 1) := by decide +kernel
theorem dX8_findRuns_237 : decode cX8_findRuns 237 = .ok (.putfield 153, 3) := by decide +kernel
theorem dX8_findRuns_240 : decode cX8_findRuns 240 = .ok (.iinc 4 1, 3) := by decide +kernel
theorem dX8_findRuns_243 : decode cX8_findRuns 243 = .ok (.goto (-187), 3) := by decide +kernel
theorem dX8_findRuns_246 : decode cX8_findRuns 246 = .ok (.iinc 3 1, 3) := by decide +kernel
theorem dX8_findRuns_249 : decode cX8_findRuns 249 = .ok (.goto (-206), 3) := by decide +kernel
theorem dX8_findRuns_252 : decode cX8_findRuns 252 = .ok (.return_, 1) := by decide +kernel
theorem dX8_against_0 : decode cX8_against 0 = .ok (.iload_n 1, 1) := by decide +kernel
theorem dX8_against_1 : decode cX8_against 1 = .ok (.invokestatic 123, 3) := by decide +kernel
theorem dX8_against_4 : decode cX8_against 4 = .ok (.ifCond .eq 15, 3) := by decide +kernel
theorem dX8_against_7 : decode cX8_against 7 = .ok (.iload_n 2, 1) := by decide +kernel
theorem dX8_against_8 : decode cX8_against 8 = .ok (.invokestatic 123, 3) := by decide +kernel
theorem dX8_against_11 : decode cX8_against 11 = .ok (.ifCond .eq 8, 3) := by decide +kernel
theorem dX8_against_14 : decode cX8_against 14 = .ok (.iload_n 1, 1) := by decide +kernel
theorem dX8_against_15 : decode cX8_against 15 = .ok (.iload_n 2, 1) := by decide +kernel
theorem dX8_against_16 : decode cX8_against 16 = .ok (.if_icmp .ne 7, 3) := by decide +kernel
theorem dX8_against_19 : decode cX8_against 19 = .ok (.iconst (-1), 1) := by decide +kernel
theorem dX8_against_20 : decode cX8_against 20 = .ok (.goto 27, 3) := by decide +kernel
theorem dX8_against_23 : decode cX8_against 23 = .ok (.aload_n 0, 1) := by decide +kernel
theorem dX8_against_24 : decode cX8_against 24 = .ok (.getfield 13, 3) := by decide +kernel
theorem dX8_against_27 : decode cX8_against 27 = .ok (.iload_n 1, 1) := by decide +kernel
theorem dX8_against_28 : decode cX8_against 28 = .ok (.baload, 1) := by decide +kernel
theorem dX8_against_29 : decode cX8_against 29 = .ok (.ifCond .eq 12, 3) := by decide +kernel
theorem dX8_against_32 : decode cX8_against 32 = .ok (.aload_n 0, 1) := by decide +kernel
theorem dX8_against_33 : decode cX8_against 33 = .ok (.getfield 13, 3) := by decide +kernel
theorem dX8_against_36 : decode cX8_against 36 = .ok (.iload_n 2, 1) := by decide +kernel
theorem dX8_against_37 : decode cX8_against 37 = .ok (.baload, 1) := by decide +kernel
theorem dX8_against_38 : decode cX8_against 38 = .ok (.ifCond .ne 8, 3) := by decide +kernel
theorem dX8_against_41 : decode cX8_against 41 = .ok (.bipush (-2), 2) := by decide +kernel
theorem dX8_against_43 : decode cX8_against 43 = .ok (.goto 4, 3) := by decide +kernel
theorem dX8_against_46 : decode cX8_against 46 = .ok (.iconst 0, 1) := by decide +kernel
theorem dX8_against_47 : decode cX8_against 47 = .ok (.ireturn, 1) := by decide +kernel
theorem dX8_runs_0 : decode cX8_runs 0 = .ok (.aload_n 0, 1) := by decide +kernel
theorem dX8_runs_1 : decode cX8_runs 1 = .ok (.iload_n 1, 1) := by decide +kernel
theorem dX8_runs_2 : decode cX8_runs 2 = .ok (.iload_n 2, 1) := by decide +kernel
theorem dX8_runs_3 : decode cX8_runs 3 = .ok (.invokevirtual 160, 3) := by decide +kernel
theorem dX8_runs_6 : decode cX8_runs 6 = .ok (.istore_n 3, 1) := by decide +kernel
theorem dX8_runs_7 : decode cX8_runs 7 = .ok (.iload_n 3, 1) := by decide +kernel
theorem dX8_runs_8 : decode cX8_runs 8 = .ok (.ifCond .ge 5, 3) := by decide +kernel
theorem dX8_runs_11 : decode cX8_runs 11 = .ok (.iload_n 3, 1) := by decide +kernel
theorem dX8_runs_12 : decode cX8_runs 12 = .ok (.ireturn, 1) := by decide +kernel
theorem dX8_runs_13 : decode cX8_runs 13 = .ok (.aload_n 0, 1) := by decide +kernel
theorem dX8_runs_14 : decode cX8_runs 14 = .ok (.iload_n 1, 1) := by decide +kernel
theorem dX8_runs_15 : decode cX8_runs 15 = .ok (.iload_n 2, 1) := by decide +kernel
theorem dX8_runs_16 : decode cX8_runs 16 = .ok (.invokevirtual 163, 3) := by decide +kernel
theorem dX8_runs_19 : decode cX8_runs 19 = .ok (.aload_n 0, 1) := by decide +kernel
theorem dX8_runs_20 : decode cX8_runs 20 = .ok (.getfield 153, 3) := by decide +kernel
theorem dX8_runs_23 : decode cX8_runs 23 = .ok (.ireturn, 1) := by decide +kernel
theorem dX8_run_0 : decode cX8_run 0 = .ok (.iload_n 3, 1) := by decide +kernel
theorem dX8_run_1 : decode cX8_run 1 = .ok (.ifCond .lt 13, 3) := by decide +kernel
theorem dX8_run_4 : decode cX8_run 4 = .ok (.iload 4, 2) := by decide +kernel
theorem dX8_run_6 : decode cX8_run 6 = .ok (.iconst 0, 1) := by decide +kernel
theorem dX8_run_7 : decode cX8_run 7 = .ok (.iconst 2, 1) := by decide +kernel
theorem dX8_run_8 : decode cX8_run 8 = .ok (.invokestatic 86, 3) := by decide +kernel
theorem dX8_run_11 : decode cX8_run 11 = .ok (.ifCond .ne 7, 3) := by decide +kernel
theorem dX8_run_14 : decode cX8_run 14 = .ok (.iconst (-1), 1) := by decide +kernel
theorem dX8_run_15 : decode cX8_run 15 = .ok (.goto 9, 3) := by decide +kernel
theorem dX8_run_18 : decode cX8_run 18 = .ok (.aload_n 0, 1) := by decide +kernel
theorem dX8_run_19 : decode cX8_run 19 = .ok (.iload_n 1, 1) := by decide +kernel
theorem dX8_run_20 : decode cX8_run 20 = .ok (.iload_n 2, 1) := by decide +kernel
theorem dX8_run_21 : decode cX8_run 21 = .ok (.invokevirtual 160, 3) := by decide +kernel
theorem dX8_run_24 : decode cX8_run 24 = .ok (.istore 5, 2) := by decide +kernel
theorem dX8_run_26 : decode cX8_run 26 = .ok (.iload 5, 2) := by decide +kernel
theorem dX8_run_28 : decode cX8_run 28 = .ok (.ifCond .ge 6, 3) := by decide +kernel
theorem dX8_run_31 : decode cX8_run 31 = .ok (.iload 5, 2) := by decide +kernel
theorem dX8_run_33 : decode cX8_run 33 = .ok (.ireturn, 1) := by decide +kernel
theorem dX8_run_34 : decode cX8_run 34 = .ok (.aload_n 0, 1) := by decide +kernel
theorem dX8_run_35 : decode cX8_run 35 = .ok (.iload_n 1, 1) := by decide +kernel
theorem dX8_run_36 : decode cX8_run 36 = .ok (.iload_n 2, 1) := by decide +kernel
theorem dX8_run_37 : decode cX8_run 37 = .ok (.invokevirtual 163, 3) := by decide +kernel
theorem dX8_run_40 : decode cX8_run 40 = .ok (.iload_n 3, 1) := by decide +kernel
theorem dX8_run_41 : decode cX8_run 41 = .ok (.aload_n 0, 1) := by decide +kernel
theorem dX8_run_42 : decode cX8_run 42 = .ok (.getfield 153, 3) := by decide +kernel
theorem dX8_run_45 : decode cX8_run 45 = .ok (.if_icmp .lt 7, 3) := by decide +kernel
theorem dX8_run_48 : decode cX8_run 48 = .ok (.iconst (-1), 1) := by decide +kernel
theorem dX8_run_49 : decode cX8_run 49 = .ok (.goto 38, 3) := by decide +kernel
theorem dX8_run_52 : decode cX8_run 52 = .ok (.iload 4, 2) := by decide +kernel
theorem dX8_run_54 : decode cX8_run 54 = .ok (.ifCond .ne 12, 3) := by decide +kernel
theorem dX8_run_57 : decode cX8_run 57 = .ok (.aload_n 0, 1) := by decide +kernel
theorem dX8_run_58 : decode cX8_run 58 = .ok (.getfield 68, 3) := by decide +kernel
theorem dX8_run_61 : decode cX8_run 61 = .ok (.iload_n 3, 1) := by decide +kernel
theorem dX8_run_62 : decode cX8_run 62 = .ok (.iaload, 1) := by decide +kernel
theorem dX8_run_63 : decode cX8_run 63 = .ok (.goto 24, 3) := by decide +kernel
theorem dX8_run_66 : decode cX8_run 66 = .ok (.iload 4, 2) := by decide +kernel
theorem dX8_run_68 : decode cX8_run 68 = .ok (.iconst 1, 1) := by decide +kernel
theorem dX8_run_69 : decode cX8_run 69 = .ok (.if_icmp .ne 12, 3) := by decide +kernel
theorem dX8_run_72 : decode cX8_run 72 = .ok (.aload_n 0, 1) := by decide +kernel
theorem dX8_run_73 : decode cX8_run 73 = .ok (.getfield 71, 3) := by decide +kernel
theorem dX8_run_76 : decode cX8_run 76 = .ok (.iload_n 3, 1) := by decide +kernel
theorem dX8_run_77 : decode cX8_run 77 = .ok (.iaload, 1) := by decide +kernel
theorem dX8_run_78 : decode cX8_run 78 = .ok (.goto 9, 3) := by decide +kernel
theorem dX8_run_81 : decode cX8_run 81 = .ok (.aload_n 0, 1) := by decide +kernel
theorem dX8_run_82 : decode cX8_run 82 = .ok (.getfield 74, 3) := by decide +kernel
theorem dX8_run_85 : decode cX8_run 85 = .ok (.iload_n 3, 1) := by decide +kernel
theorem dX8_run_86 : decode cX8_run 86 = .ok (.iaload, 1) := by decide +kernel
theorem dX8_run_87 : decode cX8_run 87 = .ok (.ireturn, 1) := by decide +kernel
theorem dX8_findScore_0 : decode cX8_findScore 0 = .ok (.aload_n 0, 1) := by decide +kernel
theorem dX8_findScore_1 : decode cX8_findScore 1 = .ok (.iload_n 1, 1) := by decide +kernel
theorem dX8_findScore_2 : decode cX8_findScore 2 = .ok (.iload_n 2, 1) := by decide +kernel
theorem dX8_findScore_3 : decode cX8_findScore 3 = .ok (.invokevirtual 163, 3) := by decide +kernel
theorem dX8_findScore_6 : decode cX8_findScore 6 = .ok (.iconst 0, 1) := by decide +kernel
theorem dX8_findScore_7 : decode cX8_findScore 7 = .ok (.istore_n 3, 1) := by decide +kernel
theorem dX8_findScore_8 : decode cX8_findScore 8 = .ok (.aload_n 0, 1) := by decide +kernel
theorem dX8_findScore_9 : decode cX8_findScore 9 = .ok (.iconst (-1), 1) := by decide +kernel
theorem dX8_findScore_10 : decode cX8_findScore 10 = .ok (.putfield 166, 3) := by decide +kernel
theorem dX8_findScore_13 : decode cX8_findScore 13 = .ok (.aload_n 0, 1) := by decide +kernel
theorem dX8_findScore_14 : decode cX8_findScore 14 = .ok (.getfield 153, 3) := by decide +kernel
theorem dX8_findScore_17 : decode cX8_findScore 17 = .ok (.iconst 1, 1) := by decide +kernel
theorem dX8_findScore_18 : decode cX8_findScore 18 = .ok (.isub, 1) := by decide +kernel
theorem dX8_findScore_19 : decode cX8_findScore 19 = .ok (.istore 4, 2) := by decide +kernel
theorem dX8_findScore_21 : decode cX8_findScore 21 = .ok (.iload 4, 2) := by decide +kernel
theorem dX8_findScore_23 : decode cX8_findScore 23 = .ok (.ifCond .lt 205, 3) := by decide +kernel
theorem dX8_findScore_26 : decode cX8_findScore 26 = .ok (.aload_n 0, 1) := by decide +kernel
theorem dX8_findScore_27 : decode cX8_findScore 27 = .ok (.getfield 77, 3) := by decide +kernel
theorem dX8_findScore_30 : decode cX8_findScore 30 = .ok (.iload 4, 2) := by decide +kernel
theorem dX8_findScore_32 : decode cX8_findScore 32 = .ok (.aload_n 0, 1) := by decide +kernel
theorem dX8_findScore_33 : decode cX8_findScore 33 = .ok (.getfield 74, 3) := by decide +kernel
theorem dX8_findScore_36 : decode cX8_findScore 36 = .ok (.iload 4, 2) := by decide +kernel
theorem dX8_findScore_38 : decode cX8_findScore 38 = .ok (.iaload, 1) := by decide +kernel
theorem dX8_findScore_39 : decode cX8_findScore 39 = .ok (.iastore, 1) := by decide +kernel
theorem dX8_findScore_40 : decode cX8_findScore 40 = .ok (.aload_n 0, 1) := by decide +kernel
theorem dX8_findScore_41 : decode cX8_findScore 41 = .ok (.getfield 80, 3) := by decide +kernel
theorem dX8_findScore_44 : decode cX8_findScore 44 = .ok (.iload 4, 2) := by decide +kernel
theorem dX8_findScore_46 : decode cX8_findScore 46 = .ok (.iconst (-1), 1) := by decide +kernel
theorem dX8_findScore_47 : decode cX8_findScore 47 = .ok (.iastore, 1) := by decide +kernel
theorem dX8_findScore_48 : decode cX8_findScore 48 = .ok (.aload_n 0, 1) := by decide +kernel
theorem dX8_findScore_49 : decode cX8_findScore 49 = .ok (.getfield 153, 3) := by decide +kernel
theorem dX8_findScore_52 : decode cX8_findScore 52 = .ok (.iconst 1, 1) := by decide +kernel
theorem dX8_findScore_53 : decode cX8_findScore 53 = .ok (.isub, 1) := by decide +kernel
theorem dX8_findScore_54 : decode cX8_findScore 54 = .ok (.istore 5, 2) := by decide +kernel
theorem dX8_findScore_56 : decode cX8_findScore 56 = .ok (.iload 5, 2) := by decide +kernel
theorem dX8_findScore_58 : decode cX8_findScore 58 = .ok (.iload 4, 2) := by decide +kernel
theorem dX8_findScore_60 : decode cX8_findScore 60 = .ok (.if_icmp .le 137, 3) := by decide +kernel
theorem dX8_findScore_63 : decode cX8_findScore 63 = .ok (.aload_n 0, 1) := by decide +kernel
theorem dX8_findScore_64 : decode cX8_findScore 64 = .ok (.getfield 68, 3) := by decide +kernel
theorem dX8_findScore_67 : decode cX8_findScore 67 = .ok (.iload 5, 2) := by decide +kernel
theorem dX8_findScore_69 : decode cX8_findScore 69 = .ok (.iaload, 1) := by decide +kernel
theorem dX8_findScore_70 : decode cX8_findScore 70 = .ok (.aload_n 0, 1) := by decide +kernel
theorem dX8_findScore_71 : decode cX8_findScore 71 = .ok (.getfield 68, 3) := by decide +kernel
theorem dX8_findScore_74 : decode cX8_findScore 74 = .ok (.iload 4, 2) := by decide +kernel
theorem dX8_findScore_76 : decode cX8_findScore 76 = .ok (.iaload, 1) := by decide +kernel
theorem dX8_findScore_77 : decode cX8_findScore 77 = .ok (.aload_n 0, 1) := by decide +kernel
theorem dX8_findScore_78 : decode cX8_findScore 78 = .ok (.getfield 74, 3) := by decide +kernel
theorem dX8_findScore_81 : decode cX8_findScore 81 = .ok (.iload 4, 2) := by decide +kernel
theorem dX8_findScore_83 : decode cX8_findScore 83 = .ok (.iaload, 1) := by decide +kernel
theorem dX8_findScore_84 : decode cX8_findScore 84 = .ok (.iadd, 1) := by decide +kernel
theorem dX8_findScore_85 : decode cX8_findScore 85 = .ok (.if_icmp .lt 32, 3) := by decide +kernel
theorem dX8_findScore_88 : decode cX8_findScore 88 = .ok (.aload_n 0, 1) := by decide +kernel
theorem dX8_findScore_89 : decode cX8_findScore 89 = .ok (.getfield 71, 3) := by decide +kernel
theorem dX8_findScore_92 : decode cX8_findScore 92 = .ok (.iload 5, 2) := by decide +kernel
theorem dX8_findScore_94 : decode cX8_findScore 94 = .ok (.iaload, 1) := by decide +kernel
theorem dX8_findScore_95 : decode cX8_findScore 95 = .ok (.aload_n 0, 1) := by decide +kernel
theorem dX8_findScore_96 : decode cX8_findScore 96 = .ok (.getfield 71, 3) := by decide +kernel
theorem dX8_findScore_99 : decode cX8_findScore 99 = .ok (.iload 4, 2) := by decide +kernel
theorem dX8_findScore_101 : decode cX8_findScore 101 = .ok (.iaload, 1) := by decide +kernel
theorem dX8_findScore_102 : decode cX8_findScore 102 = .ok (.aload_n 0, 1) := by decide +kernel
theorem dX8_findScore_103 : decode cX8_findScore 103 = .ok (.getfield 74, 3) := by decide +kernel
theorem dX8_findScore_106 : decode cX8_findScore 106 = .ok (.iload 4, 2) := by decide +kernel
theorem dX8_findScore_108 : decode cX8_findScore 108 = .ok (.iaload, 1) := by decide +kernel
theorem dX8_findScore_109 : decode cX8_findScore 109 = .ok (.iadd, 1) := by decide +kernel
theorem dX8_findScore_110 : decode cX8_findScore 110 = .ok (.if_icmp .lt 7, 3) := by decide +kernel
theorem dX8_findScore_113 : decode cX8_findScore 113 = .ok (.iconst 1, 1) := by decide +kernel
theorem dX8_findScore_114 : decode cX8_findScore 114 = .ok (.goto 4, 3) := by decide +kernel
theorem dX8_findScore_117 : decode cX8_findScore 117 = .ok (.iconst 0, 1) := by decide +kernel
theorem dX8_findScore_118 : decode cX8_findScore 118 = .ok (.istore 6, 2) := by decide +kernel
theorem dX8_findScore_120 : decode cX8_findScore 120 = .ok (.iload 6, 2) := by decide +kernel
theorem dX8_findScore_122 : decode cX8_findScore 122 = .ok (.ifCond .eq 69, 3) := by decide +kernel
theorem dX8_findScore_125 : decode cX8_findScore 125 = .ok (.aload_n 0, 1) := by decide +kernel
theorem dX8_findScore_126 : decode cX8_findScore 126 = .ok (.getfield 74, 3) := by decide +kernel
theorem dX8_findScore_129 : decode cX8_findScore 129 = .ok (.iload 4, 2) := by decide +kernel
theorem dX8_findScore_131 : decode cX8_findScore 131 = .ok (.iaload, 1) := by decide +kernel
theorem dX8_findScore_132 : decode cX8_findScore 132 = .ok (.aload_n 0, 1) := by decide +kernel
theorem dX8_findScore_133 : decode cX8_findScore 133 = .ok (.getfield 77, 3) := by decide +kernel
theorem dX8_findScore_136 : decode cX8_findScore 136 = .ok (.iload 5, 2) := by decide +kernel
theorem dX8_findScore_138 : decode cX8_findScore 138 = .ok (.iaload, 1) := by decide +kernel
theorem dX8_findScore_139 : decode cX8_findScore 139 = .ok (.iadd, 1) := by decide +kernel
theorem dX8_findScore_140 : decode cX8_findScore 140 = .ok (.aload_n 0, 1) := by decide +kernel
theorem dX8_findScore_141 : decode cX8_findScore 141 = .ok (.getfield 37, 3) := by decide +kernel
theorem dX8_findScore_144 : decode cX8_findScore 144 = .ok (.isub, 1) := by decide +kernel
theorem dX8_findScore_145 : decode cX8_findScore 145 = .ok (.aload_n 0, 1) := by decide +kernel
theorem dX8_findScore_146 : decode cX8_findScore 146 = .ok (.getfield 77, 3) := by decide +kernel
theorem dX8_findScore_149 : decode cX8_findScore 149 = .ok (.iload 4, 2) := by decide +kernel
theorem dX8_findScore_151 : decode cX8_findScore 151 = .ok (.iaload, 1) := by decide +kernel
theorem dX8_findScore_152 : decode cX8_findScore 152 = .ok (.if_icmp .lt 39, 3) := by decide +kernel
theorem dX8_findScore_155 : decode cX8_findScore 155 = .ok (.aload_n 0, 1) := by decide +kernel
theorem dX8_findScore_156 : decode cX8_findScore 156 = .ok (.getfield 77, 3) := by decide +kernel
theorem dX8_findScore_159 : decode cX8_findScore 159 = .ok (.iload 4, 2) := by decide +kernel
theorem dX8_findScore_161 : decode cX8_findScore 161 = .ok (.aload_n 0, 1) := by decide +kernel
theorem dX8_findScore_162 : decode cX8_findScore 162 = .ok (.getfield 74, 3) := by decide +kernel
theorem dX8_findScore_165 : decode cX8_findScore 165 = .ok (.iload 4, 2) := by decide +kernel
theorem dX8_findScore_167 : decode cX8_findScore 167 = .ok (.iaload, 1) := by decide +kernel
theorem dX8_findScore_168 : decode cX8_findScore 168 = .ok (.aload_n 0, 1) := by decide +kernel
theorem dX8_findScore_169 : decode cX8_findScore 169 = .ok (.getfield 77, 3) := by decide +kernel
theorem dX8_findScore_172 : decode cX8_findScore 172 = .ok (.iload 5, 2) := by decide +kernel
theorem dX8_findScore_174 : decode cX8_findScore 174 = .ok (.iaload, 1) := by decide +kernel
theorem dX8_findScore_175 : decode cX8_findScore 175 = .ok (.iadd, 1) := by decide +kernel
theorem dX8_findScore_176 : decode cX8_findScore 176 = .ok (.aload_n 0, 1) := by decide +kernel
theorem dX8_findScore_177 : decode cX8_findScore 177 = .ok (.getfield 37, 3) := by decide +kernel
theorem dX8_findScore_180 : decode cX8_findScore 180 = .ok (.isub, 1) := by decide +kernel
theorem dX8_findScore_181 : decode cX8_findScore 181 = .ok (.iastore, 1) := by decide +kernel
theorem dX8_findScore_182 : decode cX8_findScore 182 = .ok (.aload_n 0, 1) := by decide +kernel
theorem dX8_findScore_183 : decode cX8_findScore 183 = .ok (.getfield 80, 3) := by decide +kernel
theorem dX8_findScore_186 : decode cX8_findScore 186 = .ok (.iload 4, 2) := by decide +kernel
theorem dX8_findScore_188 : decode cX8_findScore 188 = .ok (.iload 5, 2) := by decide +kernel
theorem dX8_findScore_190 : decode cX8_findScore 190 = .ok (.iastore, 1) := by decide +kernel
theorem dX8_findScore_191 : decode cX8_findScore 191 = .ok (.iinc 5 (-1), 3) := by decide +kernel
theorem dX8_findScore_194 : decode cX8_findScore 194 = .ok (.goto (-138), 3) := by decide +kernel
theorem dX8_findScore_197 : decode cX8_findScore 197 = .ok (.aload_n 0, 1) := by decide +kernel
theorem dX8_findScore_198 : decode cX8_findScore 198 = .ok (.getfield 77, 3) := by decide +kernel
theorem dX8_findScore_201 : decode cX8_findScore 201 = .ok (.iload 4, 2) := by decide +kernel
theorem dX8_findScore_203 : decode cX8_findScore 203 = .ok (.iaload, 1) := by decide +kernel
theorem dX8_findScore_204 : decode cX8_findScore 204 = .ok (.iload_n 3, 1) := by decide +kernel
theorem dX8_findScore_205 : decode cX8_findScore 205 = .ok (.if_icmp .lt 17, 3) := by decide +kernel
theorem dX8_findScore_208 : decode cX8_findScore 208 = .ok (.aload_n 0, 1) := by decide +kernel
theorem dX8_findScore_209 : decode cX8_findScore 209 = .ok (.getfield 77, 3) := by decide +kernel
theorem dX8_findScore_212 : decode cX8_findScore 212 = .ok (.iload 4, 2) := by decide +kernel
theorem dX8_findScore_214 : decode cX8_findScore 214 = .ok (.iaload, 1) := by decide +kernel
theorem dX8_findScore_215 : decode cX8_findScore 215 = .ok (.istore_n 3, 1) := by decide +kernel
theorem dX8_findScore_216 : decode cX8_findScore 216 = .ok (.aload_n 0, 1) := by decide +kernel
theorem dX8_findScore_217 : decode cX8_findScore 217 = .ok (.iload 4, 2) := by decide +kernel
theorem dX8_findScore_219 : decode cX8_findScore 219 = .ok (.putfield 166, 3) := by decide +kernel
theorem dX8_findScore_222 : decode cX8_findScore 222 = .ok (.iinc 4 (-1), 3) := by decide +kernel
theorem dX8_findScore_225 : decode cX8_findScore 225 = .ok (.goto (-204), 3) := by decide +kernel
theorem dX8_findScore_228 : decode cX8_findScore 228 = .ok (.iload_n 3, 1) := by decide +kernel
theorem dX8_findScore_229 : decode cX8_findScore 229 = .ok (.ireturn, 1) := by decide +kernel
theorem dX8_score_0 : decode cX8_score 0 = .ok (.aload_n 0, 1) := by decide +kernel
theorem dX8_score_1 : decode cX8_score 1 = .ok (.iload_n 1, 1) := by decide +kernel
theorem dX8_score_2 : decode cX8_score 2 = .ok (.iload_n 2, 1) := by decide +kernel
theorem dX8_score_3 : decode cX8_score 3 = .ok (.invokevirtual 160, 3) := by decide +kernel
theorem dX8_score_6 : decode cX8_score 6 = .ok (.istore_n 3, 1) := by decide +kernel
theorem dX8_score_7 : decode cX8_score 7 = .ok (.iload_n 3, 1) := by decide +kernel
theorem dX8_score_8 : decode cX8_score 8 = .ok (.ifCond .ge 7, 3) := by decide +kernel
theorem dX8_score_11 : decode cX8_score 11 = .ok (.iload_n 3, 1) := by decide +kernel
theorem dX8_score_12 : decode cX8_score 12 = .ok (.goto 9, 3) := by decide +kernel
theorem dX8_score_15 : decode cX8_score 15 = .ok (.aload_n 0, 1) := by decide +kernel
theorem dX8_score_16 : decode cX8_score 16 = .ok (.iload_n 1, 1) := by decide +kernel
theorem dX8_score_17 : decode cX8_score 17 = .ok (.iload_n 2, 1) := by decide +kernel
theorem dX8_score_18 : decode cX8_score 18 = .ok (.invokevirtual 169, 3) := by decide +kernel
theorem dX8_score_21 : decode cX8_score 21 = .ok (.ireturn, 1) := by decide +kernel
theorem dX8_chain_0 : decode cX8_chain 0 = .ok (.iload_n 3, 1) := by decide +kernel
theorem dX8_chain_1 : decode cX8_chain 1 = .ok (.iconst (-1), 1) := by decide +kernel
theorem dX8_chain_2 : decode cX8_chain 2 = .ok (.if_icmp .ge 7, 3) := by decide +kernel
theorem dX8_chain_5 : decode cX8_chain 5 = .ok (.iconst (-1), 1) := by decide +kernel
theorem dX8_chain_6 : decode cX8_chain 6 = .ok (.goto 9, 3) := by decide +kernel
theorem dX8_chain_9 : decode cX8_chain 9 = .ok (.aload_n 0, 1) := by decide +kernel
theorem dX8_chain_10 : decode cX8_chain 10 = .ok (.iload_n 1, 1) := by decide +kernel
theorem dX8_chain_11 : decode cX8_chain 11 = .ok (.iload_n 2, 1) := by decide +kernel
theorem dX8_chain_12 : decode cX8_chain 12 = .ok (.invokevirtual 160, 3) := by decide +kernel
theorem dX8_chain_15 : decode cX8_chain 15 = .ok (.istore 4, 2) := by decide +kernel
theorem dX8_chain_17 : decode cX8_chain 17 = .ok (.iload 4, 2) := by decide +kernel
theorem dX8_chain_19 : decode cX8_chain 19 = .ok (.ifCond .ge 6, 3) := by decide +kernel
theorem dX8_chain_22 : decode cX8_chain 22 = .ok (.iload 4, 2) := by decide +kernel
theorem dX8_chain_24 : decode cX8_chain 24 = .ok (.ireturn, 1) := by decide +kernel
theorem dX8_chain_25 : decode cX8_chain 25 = .ok (.aload_n 0, 1) := by decide +kernel
theorem dX8_chain_26 : decode cX8_chain 26 = .ok (.iload_n 1, 1) := by decide +kernel
theorem dX8_chain_27 : decode cX8_chain 27 = .ok (.iload_n 2, 1) := by decide +kernel
theorem dX8_chain_28 : decode cX8_chain 28 = .ok (.invokevirtual 169, 3) := by decide +kernel
theorem dX8_chain_31 : decode cX8_chain 31 = .ok (.istore 5, 2) := by decide +kernel
theorem dX8_chain_33 : decode cX8_chain 33 = .ok (.iconst 0, 1) := by decide +kernel
theorem dX8_chain_34 : decode cX8_chain 34 = .ok (.istore 6, 2) := by decide +kernel
theorem dX8_chain_36 : decode cX8_chain 36 = .ok (.aload_n 0, 1) := by decide +kernel
theorem dX8_chain_37 : decode cX8_chain 37 = .ok (.getfield 166, 3) := by decide +kernel
theorem dX8_chain_40 : decode cX8_chain 40 = .ok (.istore 7, 2) := by decide +kernel
theorem dX8_chain_42 : decode cX8_chain 42 = .ok (.iload 7, 2) := by decide +kernel
theorem dX8_chain_44 : decode cX8_chain 44 = .ok (.ifCond .lt 27, 3) := by decide +kernel
theorem dX8_chain_47 : decode cX8_chain 47 = .ok (.iload 6, 2) := by decide +kernel
theorem dX8_chain_49 : decode cX8_chain 49 = .ok (.iload_n 3, 1) := by decide +kernel
theorem dX8_chain_50 : decode cX8_chain 50 = .ok (.if_icmp .ne 6, 3) := by decide +kernel
theorem dX8_chain_53 : decode cX8_chain 53 = .ok (.iload 7, 2) := by decide +kernel
theorem dX8_chain_55 : decode cX8_chain 55 = .ok (.ireturn, 1) := by decide +kernel
theorem dX8_chain_56 : decode cX8_chain 56 = .ok (.iinc 6 1, 3) := by decide +kernel
theorem dX8_chain_59 : decode cX8_chain 59 = .ok (.aload_n 0, 1) := by decide +kernel
theorem dX8_chain_60 : decode cX8_chain 60 = .ok (.getfield 80, 3) := by decide +kernel
theorem dX8_chain_63 : decode cX8_chain 63 = .ok (.iload 7, 2) := by decide +kernel
theorem dX8_chain_65 : decode cX8_chain 65 = .ok (.iaload, 1) := by decide +kernel
theorem dX8_chain_66 : decode cX8_chain 66 = .ok (.istore 7, 2) := by decide +kernel
theorem dX8_chain_68 : decode cX8_chain 68 = .ok (.goto (-26), 3) := by decide +kernel
theorem dX8_chain_71 : decode cX8_chain 71 = .ok (.iload_n 3, 1) := by decide +kernel
theorem dX8_chain_72 : decode cX8_chain 72 = .ok (.ifCond .ge 8, 3) := by decide +kernel
theorem dX8_chain_75 : decode cX8_chain 75 = .ok (.iload 6, 2) := by decide +kernel
theorem dX8_chain_77 : decode cX8_chain 77 = .ok (.goto 4, 3) := by decide +kernel
theorem dX8_chain_80 : decode cX8_chain 80 = .ok (.iconst (-1), 1) := by decide +kernel
theorem dX8_chain_81 : decode cX8_chain 81 = .ok (.ireturn, 1) := by decide +kernel
theorem dX8_covered_0 : decode cX8_covered 0 = .ok (.aload_n 0, 1) := by decide +kernel
theorem dX8_covered_1 : decode cX8_covered 1 = .ok (.iload_n 1, 1) := by decide +kernel
theorem dX8_covered_2 : decode cX8_covered 2 = .ok (.iload_n 2, 1) := by decide +kernel
theorem dX8_covered_3 : decode cX8_covered 3 = .ok (.invokevirtual 160, 3) := by decide +kernel
theorem dX8_covered_6 : decode cX8_covered 6 = .ok (.istore_n 3, 1) := by decide +kernel
theorem dX8_covered_7 : decode cX8_covered 7 = .ok (.iload_n 3, 1) := by decide +kernel
theorem dX8_covered_8 : decode cX8_covered 8 = .ok (.ifCond .ge 5, 3) := by decide +kernel
theorem dX8_covered_11 : decode cX8_covered 11 = .ok (.iload_n 3, 1) := by decide +kernel
theorem dX8_covered_12 : decode cX8_covered 12 = .ok (.ireturn, 1) := by decide +kernel
theorem dX8_covered_13 : decode cX8_covered 13 = .ok (.aload_n 0, 1) := by decide +kernel
theorem dX8_covered_14 : decode cX8_covered 14 = .ok (.iload_n 1, 1) := by decide +kernel
theorem dX8_covered_15 : decode cX8_covered 15 = .ok (.iload_n 2, 1) := by decide +kernel
theorem dX8_covered_16 : decode cX8_covered 16 = .ok (.invokevirtual 169, 3) := by decide +kernel
theorem dX8_covered_19 : decode cX8_covered 19 = .ok (.istore 4, 2) := by decide +kernel
theorem dX8_covered_21 : decode cX8_covered 21 = .ok (.iconst 0, 1) := by decide +kernel
theorem dX8_covered_22 : decode cX8_covered 22 = .ok (.istore 5, 2) := by decide +kernel
theorem dX8_covered_24 : decode cX8_covered 24 = .ok (.aload_n 0, 1) := by decide +kernel
theorem dX8_covered_25 : decode cX8_covered 25 = .ok (.getfield 166, 3) := by decide +kernel
theorem dX8_covered_28 : decode cX8_covered 28 = .ok (.istore 6, 2) := by decide +kernel
theorem dX8_covered_30 : decode cX8_covered 30 = .ok (.iload 6, 2) := by decide +kernel
theorem dX8_covered_32 : decode cX8_covered 32 = .ok (.ifCond .lt 27, 3) := by decide +kernel
theorem dX8_covered_35 : decode cX8_covered 35 = .ok (.iload 5, 2) := by decide +kernel
theorem dX8_covered_37 : decode cX8_covered 37 = .ok (.aload_n 0, 1) := by decide +kernel
theorem dX8_covered_38 : decode cX8_covered 38 = .ok (.getfield 74, 3) := by decide +kernel
theorem dX8_covered_41 : decode cX8_covered 41 = .ok (.iload 6, 2) := by decide +kernel
theorem dX8_covered_43 : decode cX8_covered 43 = .ok (.iaload, 1) := by decide +kernel
theorem dX8_covered_44 : decode cX8_covered 44 = .ok (.iadd, 1) := by decide +kernel
theorem dX8_covered_45 : decode cX8_covered 45 = .ok (.istore 5, 2) := by decide +kernel
theorem dX8_covered_47 : decode cX8_covered 47 = .ok (.aload_n 0, 1) := by decide +kernel
theorem dX8_covered_48 : decode cX8_covered 48 = .ok (.getfield 80, 3) := by decide +kernel
theorem dX8_covered_51 : decode cX8_covered 51 = .ok (.iload 6, 2) := by decide +kernel
theorem dX8_covered_53 : decode cX8_covered 53 = .ok (.iaload, 1) := by decide +kernel
theorem dX8_covered_54 : decode cX8_covered 54 = .ok (.istore 6, 2) := by decide +kernel
theorem dX8_covered_56 : decode cX8_covered 56 = .ok (.goto (-26), 3) := by decide +kernel
theorem dX8_covered_59 : decode cX8_covered 59 = .ok (.iload 5, 2) := by decide +kernel
theorem dX8_covered_61 : decode cX8_covered 61 = .ok (.ireturn, 1) := by decide +kernel
theorem dX8_findGroups_0 : decode cX8_findGroups 0 = .ok (.aload_n 0, 1) := by decide +kernel
theorem dX8_findGroups_1 : decode cX8_findGroups 1 = .ok (.iconst 0, 1) := by decide +kernel
theorem dX8_findGroups_2 : decode cX8_findGroups 2 = .ok (.putfield 172, 3) := by decide +kernel
theorem dX8_findGroups_5 : decode cX8_findGroups 5 = .ok (.iconst 0, 1) := by decide +kernel
theorem dX8_findGroups_6 : decode cX8_findGroups 6 = .ok (.istore_n 1, 1) := by decide +kernel
theorem dX8_findGroups_7 : decode cX8_findGroups 7 = .ok (.iload_n 1, 1) := by decide +kernel
theorem dX8_findGroups_8 : decode cX8_findGroups 8 = .ok (.bipush 6, 2) := by decide +kernel
theorem dX8_findGroups_10 : decode cX8_findGroups 10 = .ok (.if_icmp .ge 16, 3) := by decide +kernel
theorem dX8_findGroups_13 : decode cX8_findGroups 13 = .ok (.aload_n 0, 1) := by decide +kernel
theorem dX8_findGroups_14 : decode cX8_findGroups 14 = .ok (.getfield 83, 3) := by decide +kernel
theorem dX8_findGroups_17 : decode cX8_findGroups 17 = .ok (.iload_n 1, 1) := by decide +kernel
theorem dX8_findGroups_18 : decode cX8_findGroups 18 = .ok (.iload_n 1, 1) := by decide +kernel
theorem dX8_findGroups_19 : decode cX8_findGroups 19 = .ok (.iastore, 1) := by decide +kernel
theorem dX8_findGroups_20 : decode cX8_findGroups 20 = .ok (.iinc 1 1, 3) := by decide +kernel
theorem dX8_findGroups_23 : decode cX8_findGroups 23 = .ok (.goto (-16), 3) := by decide +kernel
theorem dX8_findGroups_26 : decode cX8_findGroups 26 = .ok (.iconst 0, 1) := by decide +kernel
theorem dX8_findGroups_27 : decode cX8_findGroups 27 = .ok (.istore_n 1, 1) := by decide +kernel
theorem dX8_findGroups_28 : decode cX8_findGroups 28 = .ok (.iload_n 1, 1) := by decide +kernel
theorem dX8_findGroups_29 : decode cX8_findGroups 29 = .ok (.bipush 6, 2) := by decide +kernel
theorem dX8_findGroups_31 : decode cX8_findGroups 31 = .ok (.if_icmp .ge 82, 3) := by decide +kernel
theorem dX8_findGroups_34 : decode cX8_findGroups 34 = .ok (.iload_n 1, 1) := by decide +kernel
theorem dX8_findGroups_35 : decode cX8_findGroups 35 = .ok (.iconst 1, 1) := by decide +kernel
theorem dX8_findGroups_36 : decode cX8_findGroups 36 = .ok (.iadd, 1) := by decide +kernel
theorem dX8_findGroups_37 : decode cX8_findGroups 37 = .ok (.istore_n 2, 1) := by decide +kernel
theorem dX8_findGroups_38 : decode cX8_findGroups 38 = .ok (.iload_n 2, 1) := by decide +kernel
theorem dX8_findGroups_39 : decode cX8_findGroups 39 = .ok (.bipush 6, 2) := by decide +kernel
theorem dX8_findGroups_41 : decode cX8_findGroups 41 = .ok (.if_icmp .ge 66, 3) := by decide +kernel
theorem dX8_findGroups_44 : decode cX8_findGroups 44 = .ok (.aload_n 0, 1) := by decide +kernel
theorem dX8_findGroups_45 : decode cX8_findGroups 45 = .ok (.getfield 13, 3) := by decide +kernel
theorem dX8_findGroups_48 : decode cX8_findGroups 48 = .ok (.iload_n 1, 1) := by decide +kernel
theorem dX8_findGroups_49 : decode cX8_findGroups 49 = .ok (.baload, 1) := by decide +kernel
theorem dX8_findGroups_50 : decode cX8_findGroups 50 = .ok (.ifCond .eq 51, 3) := by decide +kernel
theorem dX8_findGroups_53 : decode cX8_findGroups 53 = .ok (.aload_n 0, 1) := by decide +kernel
theorem dX8_findGroups_54 : decode cX8_findGroups 54 = .ok (.getfield 13, 3) := by decide +kernel
theorem dX8_findGroups_57 : decode cX8_findGroups 57 = .ok (.iload_n 2, 1) := by decide +kernel
theorem dX8_findGroups_58 : decode cX8_findGroups 58 = .ok (.baload, 1) := by decide +kernel
theorem dX8_findGroups_59 : decode cX8_findGroups 59 = .ok (.ifCond .eq 42, 3) := by decide +kernel
theorem dX8_findGroups_62 : decode cX8_findGroups 62 = .ok (.aload_n 0, 1) := by decide +kernel
theorem dX8_findGroups_63 : decode cX8_findGroups 63 = .ok (.iload_n 1, 1) := by decide +kernel
theorem dX8_findGroups_64 : decode cX8_findGroups 64 = .ok (.iload_n 2, 1) := by decide +kernel
theorem dX8_findGroups_65 : decode cX8_findGroups 65 = .ok (.invokevirtual 169, 3) := by decide +kernel
theorem dX8_findGroups_68 : decode cX8_findGroups 68 = .ok (.aload_n 0, 1) := by decide +kernel
theorem dX8_findGroups_69 : decode cX8_findGroups 69 = .ok (.getfield 40, 3) := by decide +kernel
theorem dX8_findGroups_72 : decode cX8_findGroups 72 = .ok (.if_icmp .lt 29, 3) := by decide +kernel
theorem dX8_findGroups_75 : decode cX8_findGroups 75 = .ok (.aload_n 0, 1) := by decide +kernel
theorem dX8_findGroups_76 : decode cX8_findGroups 76 = .ok (.dup, 1) := by decide +kernel
theorem dX8_findGroups_77 : decode cX8_findGroups 77 = .ok (.getfield 172, 3) := by decide +kernel
theorem dX8_findGroups_80 : decode cX8_findGroups 80 = .ok (.iconst 1, 1) := by decide +kernel
theorem dX8_findGroups_81 : decode cX8_findGroups 81 = .ok (.iadd, 1) := by decide +kernel
theorem dX8_findGroups_82 : decode cX8_findGroups 82 = .ok (.putfield 172, 3) := by decide +kernel
theorem dX8_findGroups_85 : decode cX8_findGroups 85 = .ok (.aload_n 0, 1) := by decide +kernel
theorem dX8_findGroups_86 : decode cX8_findGroups 86 = .ok (.aload_n 0, 1) := by decide +kernel
theorem dX8_findGroups_87 : decode cX8_findGroups 87 = .ok (.getfield 83, 3) := by decide +kernel
theorem dX8_findGroups_90 : decode cX8_findGroups 90 = .ok (.iload_n 1, 1) := by decide +kernel
theorem dX8_findGroups_91 : decode cX8_findGroups 91 = .ok (.iaload, 1) := by decide +kernel
theorem dX8_findGroups_92 : decode cX8_findGroups 92 = .ok (.aload_n 0, 1) := by decide +kernel
theorem dX8_findGroups_93 : decode cX8_findGroups 93 = .ok (.getfield 83, 3) := by decide +kernel
theorem dX8_findGroups_96 : decode cX8_findGroups 96 = .ok (.iload_n 2, 1) := by decide +kernel
theorem dX8_findGroups_97 : decode cX8_findGroups 97 = .ok (.iaload, 1) := by decide +kernel
theorem dX8_findGroups_98 : decode cX8_findGroups 98 = .ok (.invokevirtual 175, 3) := by decide +kernel
theorem dX8_findGroups_101 : decode cX8_findGroups 101 = .ok (.iinc 2 1, 3) := by decide +kernel
theorem dX8_findGroups_104 : decode cX8_findGroups 104 = .ok (.goto (-66), 3) := by decide +kernel
theorem dX8_findGroups_107 : decode cX8_findGroups 107 = .ok (.iinc 1 1, 3) := by decide +kernel
theorem dX8_findGroups_110 : decode cX8_findGroups 110 = .ok (.goto (-82), 3) := by decide +kernel
theorem dX8_findGroups_113 : decode cX8_findGroups 113 = .ok (.return_, 1) := by decide +kernel
theorem dX8_join_0 : decode cX8_join 0 = .ok (.iload_n 1, 1) := by decide +kernel
theorem dX8_join_1 : decode cX8_join 1 = .ok (.iload_n 2, 1) := by decide +kernel
theorem dX8_join_2 : decode cX8_join 2 = .ok (.if_icmp .ge 7, 3) := by decide +kernel
theorem dX8_join_5 : decode cX8_join 5 = .ok (.iload_n 1, 1) := by decide +kernel
theorem dX8_join_6 : decode cX8_join 6 = .ok (.goto 4, 3) := by decide +kernel
theorem dX8_join_9 : decode cX8_join 9 = .ok (.iload_n 2, 1) := by decide +kernel
theorem dX8_join_10 : decode cX8_join 10 = .ok (.istore_n 3, 1) := by decide +kernel
theorem dX8_join_11 : decode cX8_join 11 = .ok (.iconst 0, 1) := by decide +kernel
theorem dX8_join_12 : decode cX8_join 12 = .ok (.istore 4, 2) := by decide +kernel
theorem dX8_join_14 : decode cX8_join 14 = .ok (.iload 4, 2) := by decide +kernel
theorem dX8_join_16 : decode cX8_join 16 = .ok (.bipush 6, 2) := by decide +kernel
theorem dX8_join_18 : decode cX8_join 18 = .ok (.if_icmp .ge 49, 3) := by decide +kernel
theorem dX8_join_21 : decode cX8_join 21 = .ok (.aload_n 0, 1) := by decide +kernel
theorem dX8_join_22 : decode cX8_join 22 = .ok (.getfield 83, 3) := by decide +kernel
theorem dX8_join_25 : decode cX8_join 25 = .ok (.iload 4, 2) := by decide +kernel
theorem dX8_join_27 : decode cX8_join 27 = .ok (.aload_n 0, 1) := by decide +kernel
theorem dX8_join_28 : decode cX8_join 28 = .ok (.getfield 83, 3) := by decide +kernel
theorem dX8_join_31 : decode cX8_join 31 = .ok (.iload 4, 2) := by decide +kernel
theorem dX8_join_33 : decode cX8_join 33 = .ok (.iaload, 1) := by decide +kernel
theorem dX8_join_34 : decode cX8_join 34 = .ok (.iload_n 1, 1) := by decide +kernel
theorem dX8_join_35 : decode cX8_join 35 = .ok (.if_icmp .eq 14, 3) := by decide +kernel
theorem dX8_join_38 : decode cX8_join 38 = .ok (.aload_n 0, 1) := by decide +kernel
theorem dX8_join_39 : decode cX8_join 39 = .ok (.getfield 83, 3) := by decide +kernel
theorem dX8_join_42 : decode cX8_join 42 = .ok (.iload 4, 2) := by decide +kernel
theorem dX8_join_44 : decode cX8_join 44 = .ok (.iaload, 1) := by decide +kernel
theorem dX8_join_45 : decode cX8_join 45 = .ok (.iload_n 2, 1) := by decide +kernel
theorem dX8_join_46 : decode cX8_join 46 = .ok (.if_icmp .ne 7, 3) := by decide +kernel
theorem dX8_join_49 : decode cX8_join 49 = .ok (.iload_n 3, 1) := by decide +kernel
theorem dX8_join_50 : decode cX8_join 50 = .ok (.goto 10, 3) := by decide +kernel
theorem dX8_join_53 : decode cX8_join 53 = .ok (.aload_n 0, 1) := by decide +kernel
theorem dX8_join_54 : decode cX8_join 54 = .ok (.getfield 83, 3) := by decide +kernel
theorem dX8_join_57 : decode cX8_join 57 = .ok (.iload 4, 2) := by decide +kernel
theorem dX8_join_59 : decode cX8_join 59 = .ok (.iaload, 1) := by decide +kernel
theorem dX8_join_60 : decode cX8_join 60 = .ok (.iastore, 1) := by decide +kernel
theorem dX8_join_61 : decode cX8_join 61 = .ok (.iinc 4 1, 3) := by decide +kernel
theorem dX8_join_64 : decode cX8_join 64 = .ok (.goto (-50), 3) := by decide +kernel
theorem dX8_join_67 : decode cX8_join 67 = .ok (.return_, 1) := by decide +kernel
theorem dX8_group_0 : decode cX8_group 0 = .ok (.iload_n 1, 1) := by decide +kernel
theorem dX8_group_1 : decode cX8_group 1 = .ok (.invokestatic 123, 3) := by decide +kernel
theorem dX8_group_4 : decode cX8_group 4 = .ok (.ifCond .ne 5, 3) := by decide +kernel
theorem dX8_group_7 : decode cX8_group 7 = .ok (.iconst (-1), 1) := by decide +kernel
theorem dX8_group_8 : decode cX8_group 8 = .ok (.ireturn, 1) := by decide +kernel
theorem dX8_group_9 : decode cX8_group 9 = .ok (.aload_n 0, 1) := by decide +kernel
theorem dX8_group_10 : decode cX8_group 10 = .ok (.getfield 13, 3) := by decide +kernel
theorem dX8_group_13 : decode cX8_group 13 = .ok (.iload_n 1, 1) := by decide +kernel
theorem dX8_group_14 : decode cX8_group 14 = .ok (.baload, 1) := by decide +kernel
theorem dX8_group_15 : decode cX8_group 15 = .ok (.ifCond .ne 6, 3) := by decide +kernel
theorem dX8_group_18 : decode cX8_group 18 = .ok (.bipush (-2), 2) := by decide +kernel
theorem dX8_group_20 : decode cX8_group 20 = .ok (.ireturn, 1) := by decide +kernel
theorem dX8_group_21 : decode cX8_group 21 = .ok (.aload_n 0, 1) := by decide +kernel
theorem dX8_group_22 : decode cX8_group 22 = .ok (.invokevirtual 178, 3) := by decide +kernel
theorem dX8_group_25 : decode cX8_group 25 = .ok (.aload_n 0, 1) := by decide +kernel
theorem dX8_group_26 : decode cX8_group 26 = .ok (.getfield 83, 3) := by decide +kernel
theorem dX8_group_29 : decode cX8_group 29 = .ok (.iload_n 1, 1) := by decide +kernel
theorem dX8_group_30 : decode cX8_group 30 = .ok (.iaload, 1) := by decide +kernel
theorem dX8_group_31 : decode cX8_group 31 = .ok (.ireturn, 1) := by decide +kernel
theorem dX8_first_0 : decode cX8_first 0 = .ok (.iload_n 1, 1) := by decide +kernel
theorem dX8_first_1 : decode cX8_first 1 = .ok (.invokestatic 123, 3) := by decide +kernel
theorem dX8_first_4 : decode cX8_first 4 = .ok (.ifCond .ne 5, 3) := by decide +kernel
theorem dX8_first_7 : decode cX8_first 7 = .ok (.iconst (-1), 1) := by decide +kernel
theorem dX8_first_8 : decode cX8_first 8 = .ok (.ireturn, 1) := by decide +kernel
theorem dX8_first_9 : decode cX8_first 9 = .ok (.aload_n 0, 1) := by decide +kernel
theorem dX8_first_10 : decode cX8_first 10 = .ok (.getfield 13, 3) := by decide +kernel
theorem dX8_first_13 : decode cX8_first 13 = .ok (.iload_n 1, 1) := by decide +kernel
theorem dX8_first_14 : decode cX8_first 14 = .ok (.baload, 1) := by decide +kernel
theorem dX8_first_15 : decode cX8_first 15 = .ok (.ifCond .ne 6, 3) := by decide +kernel
theorem dX8_first_18 : decode cX8_first 18 = .ok (.bipush (-2), 2) := by decide +kernel
theorem dX8_first_20 : decode cX8_first 20 = .ok (.ireturn, 1) := by decide +kernel
theorem dX8_first_21 : decode cX8_first 21 = .ok (.aload_n 0, 1) := by decide +kernel
theorem dX8_first_22 : decode cX8_first 22 = .ok (.invokevirtual 178, 3) := by decide +kernel
theorem dX8_first_25 : decode cX8_first 25 = .ok (.iconst (-1), 1) := by decide +kernel
theorem dX8_first_26 : decode cX8_first 26 = .ok (.istore_n 2, 1) := by decide +kernel
theorem dX8_first_27 : decode cX8_first 27 = .ok (.iconst 0, 1) := by decide +kernel
theorem dX8_first_28 : decode cX8_first 28 = .ok (.istore_n 3, 1) := by decide +kernel
theorem dX8_first_29 : decode cX8_first 29 = .ok (.iload_n 3, 1) := by decide +kernel
theorem dX8_first_30 : decode cX8_first 30 = .ok (.bipush 6, 2) := by decide +kernel
theorem dX8_first_32 : decode cX8_first 32 = .ok (.if_icmp .ge 62, 3) := by decide +kernel
theorem dX8_first_35 : decode cX8_first 35 = .ok (.aload_n 0, 1) := by decide +kernel
theorem dX8_first_36 : decode cX8_first 36 = .ok (.getfield 13, 3) := by decide +kernel
theorem dX8_first_39 : decode cX8_first 39 = .ok (.iload_n 3, 1) := by decide +kernel
theorem dX8_first_40 : decode cX8_first 40 = .ok (.baload, 1) := by decide +kernel
theorem dX8_first_41 : decode cX8_first 41 = .ok (.ifCond .eq 47, 3) := by decide +kernel
theorem dX8_first_44 : decode cX8_first 44 = .ok (.aload_n 0, 1) := by decide +kernel
theorem dX8_first_45 : decode cX8_first 45 = .ok (.getfield 83, 3) := by decide +kernel
theorem dX8_first_48 : decode cX8_first 48 = .ok (.iload_n 3, 1) := by decide +kernel
theorem dX8_first_49 : decode cX8_first 49 = .ok (.iaload, 1) := by decide +kernel
theorem dX8_first_50 : decode cX8_first 50 = .ok (.aload_n 0, 1) := by decide +kernel
theorem dX8_first_51 : decode cX8_first 51 = .ok (.getfield 83, 3) := by decide +kernel
theorem dX8_first_54 : decode cX8_first 54 = .ok (.iload_n 1, 1) := by decide +kernel
theorem dX8_first_55 : decode cX8_first 55 = .ok (.iaload, 1) := by decide +kernel
theorem dX8_first_56 : decode cX8_first 56 = .ok (.if_icmp .ne 32, 3) := by decide +kernel
theorem dX8_first_59 : decode cX8_first 59 = .ok (.iload_n 3, 1) := by decide +kernel
theorem dX8_first_60 : decode cX8_first 60 = .ok (.aload_n 0, 1) := by decide +kernel
theorem dX8_first_61 : decode cX8_first 61 = .ok (.getfield 43, 3) := by decide +kernel
theorem dX8_first_64 : decode cX8_first 64 = .ok (.if_icmp .eq 24, 3) := by decide +kernel
theorem dX8_first_67 : decode cX8_first 67 = .ok (.iload_n 2, 1) := by decide +kernel
theorem dX8_first_68 : decode cX8_first 68 = .ok (.ifCond .lt 18, 3) := by decide +kernel
theorem dX8_first_71 : decode cX8_first 71 = .ok (.aload_n 0, 1) := by decide +kernel
theorem dX8_first_72 : decode cX8_first 72 = .ok (.getfield 23, 3) := by decide +kernel
theorem dX8_first_75 : decode cX8_first 75 = .ok (.iload_n 3, 1) := by decide +kernel
theorem dX8_first_76 : decode cX8_first 76 = .ok (.iaload, 1) := by decide +kernel
theorem dX8_first_77 : decode cX8_first 77 = .ok (.aload_n 0, 1) := by decide +kernel
theorem dX8_first_78 : decode cX8_first 78 = .ok (.getfield 23, 3) := by decide +kernel
theorem dX8_first_81 : decode cX8_first 81 = .ok (.iload_n 2, 1) := by decide +kernel
theorem dX8_first_82 : decode cX8_first 82 = .ok (.iaload, 1) := by decide +kernel
theorem dX8_first_83 : decode cX8_first 83 = .ok (.if_icmp .ge 5, 3) := by decide +kernel
theorem dX8_first_86 : decode cX8_first 86 = .ok (.iload_n 3, 1) := by decide +kernel
theorem dX8_first_87 : decode cX8_first 87 = .ok (.istore_n 2, 1) := by decide +kernel
theorem dX8_first_88 : decode cX8_first 88 = .ok (.iinc 3 1, 3) := by decide +kernel
theorem dX8_first_91 : decode cX8_first 91 = .ok (.goto (-62), 3) := by decide +kernel
theorem dX8_first_94 : decode cX8_first 94 = .ok (.iload_n 2, 1) := by decide +kernel
theorem dX8_first_95 : decode cX8_first 95 = .ok (.ifCond .ge 10, 3) := by decide +kernel
theorem dX8_first_98 : decode cX8_first 98 = .ok (.aload_n 0, 1) := by decide +kernel
theorem dX8_first_99 : decode cX8_first 99 = .ok (.getfield 43, 3) := by decide +kernel
theorem dX8_first_102 : decode cX8_first 102 = .ok (.goto 4, 3) := by decide +kernel
theorem dX8_first_105 : decode cX8_first 105 = .ok (.iload_n 2, 1) := by decide +kernel
theorem dX8_first_106 : decode cX8_first 106 = .ok (.ireturn, 1) := by decide +kernel
theorem dX8_count_0 : decode cX8_count 0 = .ok (.iload_n 1, 1) := by decide +kernel
theorem dX8_count_1 : decode cX8_count 1 = .ok (.iconst 0, 1) := by decide +kernel
theorem dX8_count_2 : decode cX8_count 2 = .ok (.iconst 3, 1) := by decide +kernel
theorem dX8_count_3 : decode cX8_count 3 = .ok (.invokestatic 86, 3) := by decide +kernel
theorem dX8_count_6 : decode cX8_count 6 = .ok (.ifCond .ne 5, 3) := by decide +kernel
theorem dX8_count_9 : decode cX8_count 9 = .ok (.iconst (-1), 1) := by decide +kernel
theorem dX8_count_10 : decode cX8_count 10 = .ok (.ireturn, 1) := by decide +kernel
theorem dX8_count_11 : decode cX8_count 11 = .ok (.aload_n 0, 1) := by decide +kernel
theorem dX8_count_12 : decode cX8_count 12 = .ok (.invokevirtual 178, 3) := by decide +kernel
theorem dX8_count_15 : decode cX8_count 15 = .ok (.iconst 0, 1) := by decide +kernel
theorem dX8_count_16 : decode cX8_count 16 = .ok (.istore_n 2, 1) := by decide +kernel
theorem dX8_count_17 : decode cX8_count 17 = .ok (.iconst 0, 1) := by decide +kernel
theorem dX8_count_18 : decode cX8_count 18 = .ok (.istore_n 3, 1) := by decide +kernel
theorem dX8_count_19 : decode cX8_count 19 = .ok (.iconst 0, 1) := by decide +kernel
theorem dX8_count_20 : decode cX8_count 20 = .ok (.istore 4, 2) := by decide +kernel
theorem dX8_count_22 : decode cX8_count 22 = .ok (.iconst 0, 1) := by decide +kernel
theorem dX8_count_23 : decode cX8_count 23 = .ok (.istore 5, 2) := by decide +kernel
theorem dX8_count_25 : decode cX8_count 25 = .ok (.iload 5, 2) := by decide +kernel
theorem dX8_count_27 : decode cX8_count 27 = .ok (.bipush 6, 2) := by decide +kernel
theorem dX8_count_29 : decode cX8_count 29 = .ok (.if_icmp .ge 117, 3) := by decide +kernel
theorem dX8_count_32 : decode cX8_count 32 = .ok (.iconst 0, 1) := by decide +kernel
theorem dX8_count_33 : decode cX8_count 33 = .ok (.istore 6, 2) := by decide +kernel
theorem dX8_count_35 : decode cX8_count 35 = .ok (.iconst 0, 1) := by decide +kernel
theorem dX8_count_36 : decode cX8_count 36 = .ok (.istore 7, 2) := by decide +kernel
theorem dX8_count_38 : decode cX8_count 38 = .ok (.iload 7, 2) := by decide +kernel
theorem dX8_count_40 : decode cX8_count 40 = .ok (.bipush 6, 2) := by decide +kernel
theorem dX8_count_42 : decode cX8_count 42 = .ok (.if_icmp .ge 51, 3) := by decide +kernel
theorem dX8_count_45 : decode cX8_count 45 = .ok (.iload 6, 2) := by decide +kernel
theorem dX8_count_47 : decode cX8_count 47 = .ok (.aload_n 0, 1) := by decide +kernel
theorem dX8_count_48 : decode cX8_count 48 = .ok (.getfield 13, 3) := by decide +kernel
theorem dX8_count_51 : decode cX8_count 51 = .ok (.iload 5, 2) := by decide +kernel
theorem dX8_count_53 : decode cX8_count 53 = .ok (.baload, 1) := by decide +kernel
theorem dX8_count_54 : decode cX8_count 54 = .ok (.ifCond .eq 29, 3) := by decide +kernel
theorem dX8_count_57 : decode cX8_count 57 = .ok (.aload_n 0, 1) := by decide +kernel
theorem dX8_count_58 : decode cX8_count 58 = .ok (.getfield 13, 3) := by decide +kernel
theorem dX8_count_61 : decode cX8_count 61 = .ok (.iload 7, 2) := by decide +kernel
theorem dX8_count_63 : decode cX8_count 63 = .ok (.baload, 1) := by decide +kernel
theorem dX8_count_64 : decode cX8_count 64 = .ok (.ifCond .eq 19, 3) := by decide +kernel
theorem dX8_count_67 : decode cX8_count 67 = .ok (.aload_n 0, 1) := by decide +kernel
theorem dX8_count_68 : decode cX8_count 68 = .ok (.getfield 83, 3) := by decide +kernel
theorem dX8_count_71 : decode cX8_count 71 = .ok (.iload 7, 2) := by decide +kernel
theorem dX8_count_73 : decode cX8_count 73 = .ok (.iaload, 1) := by decide +kernel
theorem dX8_count_74 : decode cX8_count 74 = .ok (.iload 5, 2) := by decide +kernel
theorem dX8_count_76 : decode cX8_count 76 = .ok (.if_icmp .ne 7, 3) := by decide +kernel
theorem dX8_count_79 : decode cX8_count 79 = .ok (.iconst 1, 1) := by decide +kernel
theorem dX8_count_80 : decode cX8_count 80 = .ok (.goto 4, 3) := by decide +kernel
theorem dX8_count_83 : decode cX8_count 83 = .ok (.iconst 0, 1) := by decide +kernel
theorem dX8_count_84 : decode cX8_count 84 = .ok (.iadd, 1) := by decide +kernel
theorem dX8_count_85 : decode cX8_count 85 = .ok (.istore 6, 2) := by decide +kernel
theorem dX8_count_87 : decode cX8_count 87 = .ok (.iinc 7 1, 3) := by decide +kernel
theorem dX8_count_90 : decode cX8_count 90 = .ok (.goto (-52), 3) := by decide +kernel
theorem dX8_count_93 : decode cX8_count 93 = .ok (.iload_n 2, 1) := by decide +kernel
theorem dX8_count_94 : decode cX8_count 94 = .ok (.aload_n 0, 1) := by decide +kernel
theorem dX8_count_95 : decode cX8_count 95 = .ok (.getfield 13, 3) := by decide +kernel
theorem dX8_count_98 : decode cX8_count 98 = .ok (.iload 5, 2) := by decide +kernel
theorem dX8_count_100 : decode cX8_count 100 = .ok (.baload, 1) := by decide +kernel
theorem dX8_count_101 : decode cX8_count 101 = .ok (.ifCond .eq 7, 3) := by decide +kernel
theorem dX8_count_104 : decode cX8_count 104 = .ok (.iconst 1, 1) := by decide +kernel
theorem dX8_count_105 : decode cX8_count 105 = .ok (.goto 4, 3) := by decide +kernel
theorem dX8_count_108 : decode cX8_count 108 = .ok (.iconst 0, 1) := by decide +kernel
theorem dX8_count_109 : decode cX8_count 109 = .ok (.iadd, 1) := by decide +kernel
theorem dX8_count_110 : decode cX8_count 110 = .ok (.istore_n 2, 1) := by decide +kernel
theorem dX8_count_111 : decode cX8_count 111 = .ok (.iload_n 3, 1) := by decide +kernel
theorem dX8_count_112 : decode cX8_count 112 = .ok (.iload 6, 2) := by decide +kernel
theorem dX8_count_114 : decode cX8_count 114 = .ok (.ifCond .le 7, 3) := by decide +kernel
theorem dX8_count_117 : decode cX8_count 117 = .ok (.iconst 1, 1) := by decide +kernel
theorem dX8_count_118 : decode cX8_count 118 = .ok (.goto 4, 3) := by decide +kernel
theorem dX8_count_121 : decode cX8_count 121 = .ok (.iconst 0, 1) := by decide +kernel
theorem dX8_count_122 : decode cX8_count 122 = .ok (.iadd, 1) := by decide +kernel
theorem dX8_count_123 : decode cX8_count 123 = .ok (.istore_n 3, 1) := by decide +kernel
theorem dX8_count_124 : decode cX8_count 124 = .ok (.iload 4, 2) := by decide +kernel
theorem dX8_count_126 : decode cX8_count 126 = .ok (.iload 6, 2) := by decide +kernel
theorem dX8_count_128 : decode cX8_count 128 = .ok (.iconst 1, 1) := by decide +kernel
theorem dX8_count_129 : decode cX8_count 129 = .ok (.if_icmp .ne 7, 3) := by decide +kernel
theorem dX8_count_132 : decode cX8_count 132 = .ok (.iconst 1, 1) := by decide +kernel
theorem dX8_count_133 : decode cX8_count 133 = .ok (.goto 4, 3) := by decide +kernel
theorem dX8_count_136 : decode cX8_count 136 = .ok (.iconst 0, 1) := by decide +kernel
theorem dX8_count_137 : decode cX8_count 137 = .ok (.iadd, 1) := by decide +kernel
theorem dX8_count_138 : decode cX8_count 138 = .ok (.istore 4, 2) := by decide +kernel
theorem dX8_count_140 : decode cX8_count 140 = .ok (.iinc 5 1, 3) := by decide +kernel
theorem dX8_count_143 : decode cX8_count 143 = .ok (.goto (-118), 3) := by decide +kernel
theorem dX8_count_146 : decode cX8_count 146 = .ok (.iload_n 1, 1) := by decide +kernel
theorem dX8_count_147 : decode cX8_count 147 = .ok (.ifCond .ne 7, 3) := by decide +kernel
theorem dX8_count_150 : decode cX8_count 150 = .ok (.iload_n 2, 1) := by decide +kernel
theorem dX8_count_151 : decode cX8_count 151 = .ok (.goto 26, 3) := by decide +kernel
theorem dX8_count_154 : decode cX8_count 154 = .ok (.iload_n 1, 1) := by decide +kernel
theorem dX8_count_155 : decode cX8_count 155 = .ok (.iconst 1, 1) := by decide +kernel
theorem dX8_count_156 : decode cX8_count 156 = .ok (.if_icmp .ne 7, 3) := by decide +kernel
theorem dX8_count_159 : decode cX8_count 159 = .ok (.iload_n 3, 1) := by decide +kernel
theorem dX8_count_160 : decode cX8_count 160 = .ok (.goto 17, 3) := by decide +kernel
theorem dX8_count_163 : decode cX8_count 163 = .ok (.iload_n 1, 1) := by decide +kernel
theorem dX8_count_164 : decode cX8_count 164 = .ok (.iconst 2, 1) := by decide +kernel
theorem dX8_count_165 : decode cX8_count 165 = .ok (.if_icmp .ne 8, 3) := by decide +kernel
theorem dX8_count_168 : decode cX8_count 168 = .ok (.iload 4, 2) := by decide +kernel
theorem dX8_count_170 : decode cX8_count 170 = .ok (.goto 7, 3) := by decide +kernel
theorem dX8_count_173 : decode cX8_count 173 = .ok (.aload_n 0, 1) := by decide +kernel
theorem dX8_count_174 : decode cX8_count 174 = .ok (.getfield 172, 3) := by decide +kernel
theorem dX8_count_177 : decode cX8_count 177 = .ok (.ireturn, 1) := by decide +kernel
theorem dX8_turnOne_0 : decode cX8_turnOne 0 = .ok (.aload_n 0, 1) := by decide +kernel
theorem dX8_turnOne_1 : decode cX8_turnOne 1 = .ok (.getfield 17, 3) := by decide +kernel
theorem dX8_turnOne_4 : decode cX8_turnOne 4 = .ok (.iload_n 1, 1) := by decide +kernel
theorem dX8_turnOne_5 : decode cX8_turnOne 5 = .ok (.iaload, 1) := by decide +kernel
theorem dX8_turnOne_6 : decode cX8_turnOne 6 = .ok (.ifCond .le 78, 3) := by decide +kernel
theorem dX8_turnOne_9 : decode cX8_turnOne 9 = .ok (.aload_n 0, 1) := by decide +kernel
theorem dX8_turnOne_10 : decode cX8_turnOne 10 = .ok (.getfield 26, 3) := by decide +kernel
theorem dX8_turnOne_13 : decode cX8_turnOne 13 = .ok (.bipush 40, 2) := by decide +kernel
theorem dX8_turnOne_15 : decode cX8_turnOne 15 = .ok (.iload_n 1, 1) := by decide +kernel
theorem dX8_turnOne_16 : decode cX8_turnOne 16 = .ok (.imul, 1) := by decide +kernel
theorem dX8_turnOne_17 : decode cX8_turnOne 17 = .ok (.laload, 1) := by decide +kernel
theorem dX8_turnOne_18 : decode cX8_turnOne 18 = .ok (.lstore_n 2, 1) := by decide +kernel
theorem dX8_turnOne_19 : decode cX8_turnOne 19 = .ok (.iconst 1, 1) := by decide +kernel
theorem dX8_turnOne_20 : decode cX8_turnOne 20 = .ok (.istore 4, 2) := by decide +kernel
theorem dX8_turnOne_22 : decode cX8_turnOne 22 = .ok (.iload 4, 2) := by decide +kernel
theorem dX8_turnOne_24 : decode cX8_turnOne 24 = .ok (.aload_n 0, 1) := by decide +kernel
theorem dX8_turnOne_25 : decode cX8_turnOne 25 = .ok (.getfield 17, 3) := by decide +kernel
theorem dX8_turnOne_28 : decode cX8_turnOne 28 = .ok (.iload_n 1, 1) := by decide +kernel
theorem dX8_turnOne_29 : decode cX8_turnOne 29 = .ok (.iaload, 1) := by decide +kernel
theorem dX8_turnOne_30 : decode cX8_turnOne 30 = .ok (.if_icmp .ge 35, 3) := by decide +kernel
theorem dX8_turnOne_33 : decode cX8_turnOne 33 = .ok (.aload_n 0, 1) := by decide +kernel
theorem dX8_turnOne_34 : decode cX8_turnOne 34 = .ok (.getfield 26, 3) := by decide +kernel
theorem dX8_turnOne_37 : decode cX8_turnOne 37 = .ok (.bipush 40, 2) := by decide +kernel
theorem dX8_turnOne_39 : decode cX8_turnOne 39 = .ok (.iload_n 1, 1) := by decide +kernel
theorem dX8_turnOne_40 : decode cX8_turnOne 40 = .ok (.imul, 1) := by decide +kernel
theorem dX8_turnOne_41 : decode cX8_turnOne 41 = .ok (.iload 4, 2) := by decide +kernel
theorem dX8_turnOne_43 : decode cX8_turnOne 43 = .ok (.iadd, 1) := by decide +kernel
theorem dX8_turnOne_44 : decode cX8_turnOne 44 = .ok (.iconst 1, 1) := by decide +kernel
theorem dX8_turnOne_45 : decode cX8_turnOne 45 = .ok (.isub, 1) := by decide +kernel
theorem dX8_turnOne_46 : decode cX8_turnOne 46 = .ok (.aload_n 0, 1) := by decide +kernel
theorem dX8_turnOne_47 : decode cX8_turnOne 47 = .ok (.getfield 26, 3) := by decide +kernel
theorem dX8_turnOne_50 : decode cX8_turnOne 50 = .ok (.bipush 40, 2) := by decide +kernel
theorem dX8_turnOne_52 : decode cX8_turnOne 52 = .ok (.iload_n 1, 1) := by decide +kernel
theorem dX8_turnOne_53 : decode cX8_turnOne 53 = .ok (.imul, 1) := by decide +kernel
theorem dX8_turnOne_54 : decode cX8_turnOne 54 = .ok (.iload 4, 2) := by decide +kernel
theorem dX8_turnOne_56 : decode cX8_turnOne 56 = .ok (.iadd, 1) := by decide +kernel
theorem dX8_turnOne_57 : decode cX8_turnOne 57 = .ok (.laload, 1) := by decide +kernel
theorem dX8_turnOne_58 : decode cX8_turnOne 58 = .ok (.lastore, 1) := by decide +kernel
theorem dX8_turnOne_59 : decode cX8_turnOne 59 = .ok (.iinc 4 1, 3) := by decide +kernel
theorem dX8_turnOne_62 : decode cX8_turnOne 62 = .ok (.goto (-40), 3) := by decide +kernel
theorem dX8_turnOne_65 : decode cX8_turnOne 65 = .ok (.aload_n 0, 1) := by decide +kernel
theorem dX8_turnOne_66 : decode cX8_turnOne 66 = .ok (.getfield 26, 3) := by decide +kernel
theorem dX8_turnOne_69 : decode cX8_turnOne 69 = .ok (.bipush 40, 2) := by decide +kernel
theorem dX8_turnOne_71 : decode cX8_turnOne 71 = .ok (.iload_n 1, 1) := by decide +kernel
theorem dX8_turnOne_72 : decode cX8_turnOne 72 = .ok (.imul, 1) := by decide +kernel
theorem dX8_turnOne_73 : decode cX8_turnOne 73 = .ok (.aload_n 0, 1) := by decide +kernel
theorem dX8_turnOne_74 : decode cX8_turnOne 74 = .ok (.getfield 17, 3) := by decide +kernel
theorem dX8_turnOne_77 : decode cX8_turnOne 77 = .ok (.iload_n 1, 1) := by decide +kernel
theorem dX8_turnOne_78 : decode cX8_turnOne 78 = .ok (.iaload, 1) := by decide +kernel
theorem dX8_turnOne_79 : decode cX8_turnOne 79 = .ok (.iadd, 1) := by decide +kernel
theorem dX8_turnOne_80 : decode cX8_turnOne 80 = .ok (.iconst 1, 1) := by decide +kernel
theorem dX8_turnOne_81 : decode cX8_turnOne 81 = .ok (.isub, 1) := by decide +kernel
theorem dX8_turnOne_82 : decode cX8_turnOne 82 = .ok (.lload_n 2, 1) := by decide +kernel
theorem dX8_turnOne_83 : decode cX8_turnOne 83 = .ok (.lastore, 1) := by decide +kernel
theorem dX8_turnOne_84 : decode cX8_turnOne 84 = .ok (.return_, 1) := by decide +kernel
theorem dX8_chance_0 : decode cX8_chance 0 = .ok (.aload_n 0, 1) := by decide +kernel
theorem dX8_chance_1 : decode cX8_chance 1 = .ok (.iload_n 1, 1) := by decide +kernel
theorem dX8_chance_2 : decode cX8_chance 2 = .ok (.iload_n 2, 1) := by decide +kernel
theorem dX8_chance_3 : decode cX8_chance 3 = .ok (.invokevirtual 160, 3) := by decide +kernel
theorem dX8_chance_6 : decode cX8_chance 6 = .ok (.istore_n 3, 1) := by decide +kernel
theorem dX8_chance_7 : decode cX8_chance 7 = .ok (.iload_n 3, 1) := by decide +kernel
theorem dX8_chance_8 : decode cX8_chance 8 = .ok (.ifCond .ge 5, 3) := by decide +kernel
theorem dX8_chance_11 : decode cX8_chance 11 = .ok (.iload_n 3, 1) := by decide +kernel
theorem dX8_chance_12 : decode cX8_chance 12 = .ok (.ireturn, 1) := by decide +kernel
theorem dX8_chance_13 : decode cX8_chance 13 = .ok (.aload_n 0, 1) := by decide +kernel
theorem dX8_chance_14 : decode cX8_chance 14 = .ok (.iload_n 1, 1) := by decide +kernel
theorem dX8_chance_15 : decode cX8_chance 15 = .ok (.iload_n 2, 1) := by decide +kernel
theorem dX8_chance_16 : decode cX8_chance 16 = .ok (.invokevirtual 169, 3) := by decide +kernel
theorem dX8_chance_19 : decode cX8_chance 19 = .ok (.istore 4, 2) := by decide +kernel
theorem dX8_chance_21 : decode cX8_chance 21 = .ok (.iconst 0, 1) := by decide +kernel
theorem dX8_chance_22 : decode cX8_chance 22 = .ok (.istore 5, 2) := by decide +kernel
theorem dX8_chance_24 : decode cX8_chance 24 = .ok (.iconst 0, 1) := by decide +kernel
theorem dX8_chance_25 : decode cX8_chance 25 = .ok (.istore 6, 2) := by decide +kernel
theorem dX8_chance_27 : decode cX8_chance 27 = .ok (.iload 6, 2) := by decide +kernel
theorem dX8_chance_29 : decode cX8_chance 29 = .ok (.aload_n 0, 1) := by decide +kernel
theorem dX8_chance_30 : decode cX8_chance 30 = .ok (.getfield 17, 3) := by decide +kernel
theorem dX8_chance_33 : decode cX8_chance 33 = .ok (.iload_n 2, 1) := by decide +kernel
theorem dX8_chance_34 : decode cX8_chance 34 = .ok (.iaload, 1) := by decide +kernel
theorem dX8_chance_35 : decode cX8_chance 35 = .ok (.if_icmp .ge 35, 3) := by decide +kernel
theorem dX8_chance_38 : decode cX8_chance 38 = .ok (.iload 5, 2) := by decide +kernel
theorem dX8_chance_40 : decode cX8_chance 40 = .ok (.aload_n 0, 1) := by decide +kernel
theorem dX8_chance_41 : decode cX8_chance 41 = .ok (.iload_n 1, 1) := by decide +kernel
theorem dX8_chance_42 : decode cX8_chance 42 = .ok (.iload_n 2, 1) := by decide +kernel
theorem dX8_chance_43 : decode cX8_chance 43 = .ok (.invokevirtual 169, 3) := by decide +kernel
theorem dX8_chance_46 : decode cX8_chance 46 = .ok (.iload 4, 2) := by decide +kernel
theorem dX8_chance_48 : decode cX8_chance 48 = .ok (.if_icmp .lt 7, 3) := by decide +kernel
theorem dX8_chance_51 : decode cX8_chance 51 = .ok (.iconst 1, 1) := by decide +kernel
theorem dX8_chance_52 : decode cX8_chance 52 = .ok (.goto 4, 3) := by decide +kernel
theorem dX8_chance_55 : decode cX8_chance 55 = .ok (.iconst 0, 1) := by decide +kernel
theorem dX8_chance_56 : decode cX8_chance 56 = .ok (.iadd, 1) := by decide +kernel
theorem dX8_chance_57 : decode cX8_chance 57 = .ok (.istore 5, 2) := by decide +kernel
theorem dX8_chance_59 : decode cX8_chance 59 = .ok (.aload_n 0, 1) := by decide +kernel
theorem dX8_chance_60 : decode cX8_chance 60 = .ok (.iload_n 2, 1) := by decide +kernel
theorem dX8_chance_61 : decode cX8_chance 61 = .ok (.invokevirtual 181, 3) := by decide +kernel
theorem dX8_chance_64 : decode cX8_chance 64 = .ok (.iinc 6 1, 3) := by decide +kernel
theorem dX8_chance_67 : decode cX8_chance 67 = .ok (.goto (-40), 3) := by decide +kernel
theorem dX8_chance_70 : decode cX8_chance 70 = .ok (.iload 5, 2) := by decide +kernel
theorem dX8_chance_72 : decode cX8_chance 72 = .ok (.ireturn, 1) := by decide +kernel
