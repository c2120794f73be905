theorem d_Mo_init_0 : decode b_Mo_init 0 = .ok (.aload_n 0, 1) := by decide +kernel
theorem d_Mo_init_1 : decode b_Mo_init 1 = .ok (.invokespecial 1, 3) := by decide +kernel
theorem d_Mo_init_4 : decode b_Mo_init 4 = .ok (.aload_n 0, 1) := by decide +kernel
theorem d_Mo_init_5 : decode b_Mo_init 5 = .ok (.bipush 68, 2) := by decide +kernel
theorem d_Mo_init_7 : decode b_Mo_init 7 = .ok (.newarray .int, 2) := by decide +kernel
theorem d_Mo_init_9 : decode b_Mo_init 9 = .ok (.putfield 9, 3) := by decide +kernel
theorem d_Mo_init_12 : decode b_Mo_init 12 = .ok (.aload_n 0, 1) := by decide +kernel
theorem d_Mo_init_13 : decode b_Mo_init 13 = .ok (.bipush 68, 2) := by decide +kernel
theorem d_Mo_init_15 : decode b_Mo_init 15 = .ok (.newarray .int, 2) := by decide +kernel
theorem d_Mo_init_17 : decode b_Mo_init 17 = .ok (.putfield 13, 3) := by decide +kernel
theorem d_Mo_init_20 : decode b_Mo_init 20 = .ok (.aload_n 0, 1) := by decide +kernel
theorem d_Mo_init_21 : decode b_Mo_init 21 = .ok (.bipush 68, 2) := by decide +kernel
theorem d_Mo_init_23 : decode b_Mo_init 23 = .ok (.newarray .int, 2) := by decide +kernel
theorem d_Mo_init_25 : decode b_Mo_init 25 = .ok (.putfield 16, 3) := by decide +kernel
theorem d_Mo_init_28 : decode b_Mo_init 28 = .ok (.aload_n 0, 1) := by decide +kernel
theorem d_Mo_init_29 : decode b_Mo_init 29 = .ok (.bipush 8, 2) := by decide +kernel
theorem d_Mo_init_31 : decode b_Mo_init 31 = .ok (.newarray .int, 2) := by decide +kernel
theorem d_Mo_init_33 : decode b_Mo_init 33 = .ok (.putfield 19, 3) := by decide +kernel
theorem d_Mo_init_36 : decode b_Mo_init 36 = .ok (.aload_n 0, 1) := by decide +kernel
theorem d_Mo_init_37 : decode b_Mo_init 37 = .ok (.bipush 120, 2) := by decide +kernel
theorem d_Mo_init_39 : decode b_Mo_init 39 = .ok (.newarray .int, 2) := by decide +kernel
theorem d_Mo_init_41 : decode b_Mo_init 41 = .ok (.putfield 22, 3) := by decide +kernel
theorem d_Mo_init_44 : decode b_Mo_init 44 = .ok (.aload_n 0, 1) := by decide +kernel
theorem d_Mo_init_45 : decode b_Mo_init 45 = .ok (.bipush 7, 2) := by decide +kernel
theorem d_Mo_init_47 : decode b_Mo_init 47 = .ok (.anewarray 25, 3) := by decide +kernel
theorem d_Mo_init_50 : decode b_Mo_init 50 = .ok (.dup, 1) := by decide +kernel
theorem d_Mo_init_51 : decode b_Mo_init 51 = .ok (.iconst 0, 1) := by decide +kernel
theorem d_Mo_init_52 : decode b_Mo_init 52 = .ok (.ldc 27, 2) := by decide +kernel
theorem d_Mo_init_54 : decode b_Mo_init 54 = .ok (.aastore, 1) := by decide +kernel
theorem d_Mo_init_55 : decode b_Mo_init 55 = .ok (.dup, 1) := by decide +kernel
theorem d_Mo_init_56 : decode b_Mo_init 56 = .ok (.iconst 1, 1) := by decide +kernel
theorem d_Mo_init_57 : decode b_Mo_init 57 = .ok (.ldc 29, 2) := by decide +kernel
theorem d_Mo_init_59 : decode b_Mo_init 59 = .ok (.aastore, 1) := by decide +kernel
theorem d_Mo_init_60 : decode b_Mo_init 60 = .ok (.dup, 1) := by decide +kernel
theorem d_Mo_init_61 : decode b_Mo_init 61 = .ok (.iconst 2, 1) := by decide +kernel
theorem d_Mo_init_62 : decode b_Mo_init 62 = .ok (.ldc 31, 2) := by decide +kernel
theorem d_Mo_init_64 : decode b_Mo_init 64 = .ok (.aastore, 1) := by decide +kernel
theorem d_Mo_init_65 : decode b_Mo_init 65 = .ok (.dup, 1) := by decide +kernel
theorem d_Mo_init_66 : decode b_Mo_init 66 = .ok (.iconst 3, 1) := by decide +kernel
theorem d_Mo_init_67 : decode b_Mo_init 67 = .ok (.ldc 33, 2) := by decide +kernel
theorem d_Mo_init_69 : decode b_Mo_init 69 = .ok (.aastore, 1) := by decide +kernel
theorem d_Mo_init_70 : decode b_Mo_init 70 = .ok (.dup, 1) := by decide +kernel
theorem d_Mo_init_71 : decode b_Mo_init 71 = .ok (.iconst 4, 1) := by decide +kernel
theorem d_Mo_init_72 : decode b_Mo_init 72 = .ok (.ldc 35, 2) := by decide +kernel
theorem d_Mo_init_74 : decode b_Mo_init 74 = .ok (.aastore, 1) := by decide +kernel
theorem d_Mo_init_75 : decode b_Mo_init 75 = .ok (.dup, 1) := by decide +kernel
theorem d_Mo_init_76 : decode b_Mo_init 76 = .ok (.iconst 5, 1) := by decide +kernel
theorem d_Mo_init_77 : decode b_Mo_init 77 = .ok (.ldc 37, 2) := by decide +kernel
theorem d_Mo_init_79 : decode b_Mo_init 79 = .ok (.aastore, 1) := by decide +kernel
theorem d_Mo_init_80 : decode b_Mo_init 80 = .ok (.dup, 1) := by decide +kernel
theorem d_Mo_init_81 : decode b_Mo_init 81 = .ok (.bipush 6, 2) := by decide +kernel
theorem d_Mo_init_83 : decode b_Mo_init 83 = .ok (.ldc 39, 2) := by decide +kernel
theorem d_Mo_init_85 : decode b_Mo_init 85 = .ok (.aastore, 1) := by decide +kernel
theorem d_Mo_init_86 : decode b_Mo_init 86 = .ok (.putfield 41, 3) := by decide +kernel
theorem d_Mo_init_89 : decode b_Mo_init 89 = .ok (.aload_n 0, 1) := by decide +kernel
theorem d_Mo_init_90 : decode b_Mo_init 90 = .ok (.sipush 720, 3) := by decide +kernel
theorem d_Mo_init_93 : decode b_Mo_init 93 = .ok (.newarray .int, 2) := by decide +kernel
theorem d_Mo_init_95 : decode b_Mo_init 95 = .ok (.putfield 45, 3) := by decide +kernel
theorem d_Mo_init_98 : decode b_Mo_init 98 = .ok (.aload_n 0, 1) := by decide +kernel
theorem d_Mo_init_99 : decode b_Mo_init 99 = .ok (.iconst 4, 1) := by decide +kernel
theorem d_Mo_init_100 : decode b_Mo_init 100 = .ok (.newarray .int, 2) := by decide +kernel
theorem d_Mo_init_102 : decode b_Mo_init 102 = .ok (.putfield 48, 3) := by decide +kernel
theorem d_Mo_init_105 : decode b_Mo_init 105 = .ok (.aload_n 0, 1) := by decide +kernel
theorem d_Mo_init_106 : decode b_Mo_init 106 = .ok (.iconst 4, 1) := by decide +kernel
theorem d_Mo_init_107 : decode b_Mo_init 107 = .ok (.newarray .int, 2) := by decide +kernel
theorem d_Mo_init_109 : decode b_Mo_init 109 = .ok (.putfield 51, 3) := by decide +kernel
theorem d_Mo_init_112 : decode b_Mo_init 112 = .ok (.aload_n 0, 1) := by decide +kernel
theorem d_Mo_init_113 : decode b_Mo_init 113 = .ok (.sipush 160, 3) := by decide +kernel
theorem d_Mo_init_116 : decode b_Mo_init 116 = .ok (.newarray .int, 2) := by decide +kernel
theorem d_Mo_init_118 : decode b_Mo_init 118 = .ok (.putfield 54, 3) := by decide +kernel
theorem d_Mo_init_121 : decode b_Mo_init 121 = .ok (.aload_n 0, 1) := by decide +kernel
theorem d_Mo_init_122 : decode b_Mo_init 122 = .ok (.bipush 40, 2) := by decide +kernel
theorem d_Mo_init_124 : decode b_Mo_init 124 = .ok (.newarray .int, 2) := by decide +kernel
theorem d_Mo_init_126 : decode b_Mo_init 126 = .ok (.putfield 57, 3) := by decide +kernel
theorem d_Mo_init_129 : decode b_Mo_init 129 = .ok (.aload_n 0, 1) := by decide +kernel
theorem d_Mo_init_130 : decode b_Mo_init 130 = .ok (.getfield 9, 3) := by decide +kernel
theorem d_Mo_init_133 : decode b_Mo_init 133 = .ok (.iconst 2, 1) := by decide +kernel
theorem d_Mo_init_134 : decode b_Mo_init 134 = .ok (.iconst 1, 1) := by decide +kernel
theorem d_Mo_init_135 : decode b_Mo_init 135 = .ok (.iastore, 1) := by decide +kernel
theorem d_Mo_init_136 : decode b_Mo_init 136 = .ok (.aload_n 0, 1) := by decide +kernel
theorem d_Mo_init_137 : decode b_Mo_init 137 = .ok (.getfield 9, 3) := by decide +kernel
theorem d_Mo_init_140 : decode b_Mo_init 140 = .ok (.iconst 3, 1) := by decide +kernel
theorem d_Mo_init_141 : decode b_Mo_init 141 = .ok (.bipush 50, 2) := by decide +kernel
theorem d_Mo_init_143 : decode b_Mo_init 143 = .ok (.iastore, 1) := by decide +kernel
theorem d_Mo_init_144 : decode b_Mo_init 144 = .ok (.iconst 0, 1) := by decide +kernel
theorem d_Mo_init_145 : decode b_Mo_init 145 = .ok (.istore_n 1, 1) := by decide +kernel
theorem d_Mo_init_146 : decode b_Mo_init 146 = .ok (.iload_n 1, 1) := by decide +kernel
theorem d_Mo_init_147 : decode b_Mo_init 147 = .ok (.bipush 6, 2) := by decide +kernel
theorem d_Mo_init_149 : decode b_Mo_init 149 = .ok (.if_icmp .ge 19, 3) := by decide +kernel
theorem d_Mo_init_152 : decode b_Mo_init 152 = .ok (.aload_n 0, 1) := by decide +kernel
theorem d_Mo_init_153 : decode b_Mo_init 153 = .ok (.getfield 9, 3) := by decide +kernel
theorem d_Mo_init_156 : decode b_Mo_init 156 = .ok (.iconst 4, 1) := by decide +kernel
theorem d_Mo_init_157 : decode b_Mo_init 157 = .ok (.iload_n 1, 1) := by decide +kernel
theorem d_Mo_init_158 : decode b_Mo_init 158 = .ok (.iadd, 1) := by decide +kernel
theorem d_Mo_init_159 : decode b_Mo_init 159 = .ok (.bipush 7, 2) := by decide +kernel
theorem d_Mo_init_161 : decode b_Mo_init 161 = .ok (.iastore, 1) := by decide +kernel
theorem d_Mo_init_162 : decode b_Mo_init 162 = .ok (.iinc 1 1, 3) := by decide +kernel
theorem d_Mo_init_165 : decode b_Mo_init 165 = .ok (.goto (-19), 3) := by decide +kernel
theorem d_Mo_init_168 : decode b_Mo_init 168 = .ok (.iconst 0, 1) := by decide +kernel
theorem d_Mo_init_169 : decode b_Mo_init 169 = .ok (.istore_n 1, 1) := by decide +kernel
theorem d_Mo_init_170 : decode b_Mo_init 170 = .ok (.iload_n 1, 1) := by decide +kernel
theorem d_Mo_init_171 : decode b_Mo_init 171 = .ok (.bipush 10, 2) := by decide +kernel
theorem d_Mo_init_173 : decode b_Mo_init 173 = .ok (.if_icmp .ge 19, 3) := by decide +kernel
theorem d_Mo_init_176 : decode b_Mo_init 176 = .ok (.aload_n 0, 1) := by decide +kernel
theorem d_Mo_init_177 : decode b_Mo_init 177 = .ok (.getfield 9, 3) := by decide +kernel
theorem d_Mo_init_180 : decode b_Mo_init 180 = .ok (.bipush 10, 2) := by decide +kernel
theorem d_Mo_init_182 : decode b_Mo_init 182 = .ok (.iload_n 1, 1) := by decide +kernel
theorem d_Mo_init_183 : decode b_Mo_init 183 = .ok (.iadd, 1) := by decide +kernel
theorem d_Mo_init_184 : decode b_Mo_init 184 = .ok (.iconst (-1), 1) := by decide +kernel
theorem d_Mo_init_185 : decode b_Mo_init 185 = .ok (.iastore, 1) := by decide +kernel
theorem d_Mo_init_186 : decode b_Mo_init 186 = .ok (.iinc 1 1, 3) := by decide +kernel
theorem d_Mo_init_189 : decode b_Mo_init 189 = .ok (.goto (-19), 3) := by decide +kernel
theorem d_Mo_init_192 : decode b_Mo_init 192 = .ok (.return_, 1) := by decide +kernel
theorem d_Mo_finding_0 : decode b_Mo_finding 0 = .ok (.aload_n 0, 1) := by decide +kernel
theorem d_Mo_finding_1 : decode b_Mo_finding 1 = .ok (.getfield 19, 3) := by decide +kernel
theorem d_Mo_finding_4 : decode b_Mo_finding 4 = .ok (.ldc 60, 2) := by decide +kernel
theorem d_Mo_finding_6 : decode b_Mo_finding 6 = .ok (.iload_n 1, 1) := by decide +kernel
theorem d_Mo_finding_7 : decode b_Mo_finding 7 = .ok (.isub, 1) := by decide +kernel
theorem d_Mo_finding_8 : decode b_Mo_finding 8 = .ok (.iconst 1, 1) := by decide +kernel
theorem d_Mo_finding_9 : decode b_Mo_finding 9 = .ok (.iadd, 1) := by decide +kernel
theorem d_Mo_finding_10 : decode b_Mo_finding 10 = .ok (.dup2, 1) := by decide +kernel
theorem d_Mo_finding_11 : decode b_Mo_finding 11 = .ok (.iaload, 1) := by decide +kernel
theorem d_Mo_finding_12 : decode b_Mo_finding 12 = .ok (.iconst 1, 1) := by decide +kernel
theorem d_Mo_finding_13 : decode b_Mo_finding 13 = .ok (.iadd, 1) := by decide +kernel
theorem d_Mo_finding_14 : decode b_Mo_finding 14 = .ok (.iastore, 1) := by decide +kernel
theorem d_Mo_finding_15 : decode b_Mo_finding 15 = .ok (.aload_n 0, 1) := by decide +kernel
theorem d_Mo_finding_16 : decode b_Mo_finding 16 = .ok (.getfield 19, 3) := by decide +kernel
theorem d_Mo_finding_19 : decode b_Mo_finding 19 = .ok (.iconst 0, 1) := by decide +kernel
theorem d_Mo_finding_20 : decode b_Mo_finding 20 = .ok (.dup2, 1) := by decide +kernel
theorem d_Mo_finding_21 : decode b_Mo_finding 21 = .ok (.iaload, 1) := by decide +kernel
theorem d_Mo_finding_22 : decode b_Mo_finding 22 = .ok (.iconst 1, 1) := by decide +kernel
theorem d_Mo_finding_23 : decode b_Mo_finding 23 = .ok (.iadd, 1) := by decide +kernel
theorem d_Mo_finding_24 : decode b_Mo_finding 24 = .ok (.iastore, 1) := by decide +kernel
theorem d_Mo_finding_25 : decode b_Mo_finding 25 = .ok (.iload_n 1, 1) := by decide +kernel
theorem d_Mo_finding_26 : decode b_Mo_finding 26 = .ok (.ireturn, 1) := by decide +kernel
theorem d_Mo_within_0 : decode b_Mo_within 0 = .ok (.iload_n 0, 1) := by decide +kernel
theorem d_Mo_within_1 : decode b_Mo_within 1 = .ok (.iload_n 1, 1) := by decide +kernel
theorem d_Mo_within_2 : decode b_Mo_within 2 = .ok (.if_icmp .lt 12, 3) := by decide +kernel
theorem d_Mo_within_5 : decode b_Mo_within 5 = .ok (.iload_n 0, 1) := by decide +kernel
theorem d_Mo_within_6 : decode b_Mo_within 6 = .ok (.iload_n 2, 1) := by decide +kernel
theorem d_Mo_within_7 : decode b_Mo_within 7 = .ok (.if_icmp .gt 7, 3) := by decide +kernel
theorem d_Mo_within_10 : decode b_Mo_within 10 = .ok (.iconst 1, 1) := by decide +kernel
theorem d_Mo_within_11 : decode b_Mo_within 11 = .ok (.goto 4, 3) := by decide +kernel
theorem d_Mo_within_14 : decode b_Mo_within 14 = .ok (.iconst 0, 1) := by decide +kernel
theorem d_Mo_within_15 : decode b_Mo_within 15 = .ok (.ireturn, 1) := by decide +kernel
theorem d_Mo_become_0 : decode b_Mo_become 0 = .ok (.aload_n 0, 1) := by decide +kernel
theorem d_Mo_become_1 : decode b_Mo_become 1 = .ok (.getfield 9, 3) := by decide +kernel
theorem d_Mo_become_4 : decode b_Mo_become 4 = .ok (.iload_n 1, 1) := by decide +kernel
theorem d_Mo_become_5 : decode b_Mo_become 5 = .ok (.iaload, 1) := by decide +kernel
theorem d_Mo_become_6 : decode b_Mo_become 6 = .ok (.istore_n 3, 1) := by decide +kernel
theorem d_Mo_become_7 : decode b_Mo_become 7 = .ok (.aload_n 0, 1) := by decide +kernel
theorem d_Mo_become_8 : decode b_Mo_become 8 = .ok (.getfield 9, 3) := by decide +kernel
theorem d_Mo_become_11 : decode b_Mo_become 11 = .ok (.iload_n 1, 1) := by decide +kernel
theorem d_Mo_become_12 : decode b_Mo_become 12 = .ok (.iload_n 2, 1) := by decide +kernel
theorem d_Mo_become_13 : decode b_Mo_become 13 = .ok (.iastore, 1) := by decide +kernel
theorem d_Mo_become_14 : decode b_Mo_become 14 = .ok (.iload_n 3, 1) := by decide +kernel
theorem d_Mo_become_15 : decode b_Mo_become 15 = .ok (.ireturn, 1) := by decide +kernel
theorem d_Mo_copyRow_0 : decode b_Mo_copyRow 0 = .ok (.iconst 0, 1) := by decide +kernel
theorem d_Mo_copyRow_1 : decode b_Mo_copyRow 1 = .ok (.istore_n 2, 1) := by decide +kernel
theorem d_Mo_copyRow_2 : decode b_Mo_copyRow 2 = .ok (.iload_n 2, 1) := by decide +kernel
theorem d_Mo_copyRow_3 : decode b_Mo_copyRow 3 = .ok (.bipush 68, 2) := by decide +kernel
theorem d_Mo_copyRow_5 : decode b_Mo_copyRow 5 = .ok (.if_icmp .ge 15, 3) := by decide +kernel
theorem d_Mo_copyRow_8 : decode b_Mo_copyRow 8 = .ok (.aload_n 1, 1) := by decide +kernel
theorem d_Mo_copyRow_9 : decode b_Mo_copyRow 9 = .ok (.iload_n 2, 1) := by decide +kernel
theorem d_Mo_copyRow_10 : decode b_Mo_copyRow 10 = .ok (.aload_n 0, 1) := by decide +kernel
theorem d_Mo_copyRow_11 : decode b_Mo_copyRow 11 = .ok (.iload_n 2, 1) := by decide +kernel
theorem d_Mo_copyRow_12 : decode b_Mo_copyRow 12 = .ok (.iaload, 1) := by decide +kernel
theorem d_Mo_copyRow_13 : decode b_Mo_copyRow 13 = .ok (.iastore, 1) := by decide +kernel
theorem d_Mo_copyRow_14 : decode b_Mo_copyRow 14 = .ok (.iinc 2 1, 3) := by decide +kernel
theorem d_Mo_copyRow_17 : decode b_Mo_copyRow 17 = .ok (.goto (-15), 3) := by decide +kernel
theorem d_Mo_copyRow_20 : decode b_Mo_copyRow 20 = .ok (.return_, 1) := by decide +kernel
theorem d_Mo_putBack_0 : decode b_Mo_putBack 0 = .ok (.aload_n 0, 1) := by decide +kernel
theorem d_Mo_putBack_1 : decode b_Mo_putBack 1 = .ok (.getfield 16, 3) := by decide +kernel
theorem d_Mo_putBack_4 : decode b_Mo_putBack 4 = .ok (.aload_n 0, 1) := by decide +kernel
theorem d_Mo_putBack_5 : decode b_Mo_putBack 5 = .ok (.getfield 9, 3) := by decide +kernel
theorem d_Mo_putBack_8 : decode b_Mo_putBack 8 = .ok (.invokestatic 61, 3) := by decide +kernel
theorem d_Mo_putBack_11 : decode b_Mo_putBack 11 = .ok (.iload_n 1, 1) := by decide +kernel
theorem d_Mo_putBack_12 : decode b_Mo_putBack 12 = .ok (.ireturn, 1) := by decide +kernel
theorem d_Mo_orNone_0 : decode b_Mo_orNone 0 = .ok (.iload_n 1, 1) := by decide +kernel
theorem d_Mo_orNone_1 : decode b_Mo_orNone 1 = .ok (.ifCond .ge 12, 3) := by decide +kernel
theorem d_Mo_orNone_4 : decode b_Mo_orNone 4 = .ok (.aload_n 0, 1) := by decide +kernel
theorem d_Mo_orNone_5 : decode b_Mo_orNone 5 = .ok (.ldc 65, 2) := by decide +kernel
theorem d_Mo_orNone_7 : decode b_Mo_orNone 7 = .ok (.invokevirtual 66, 3) := by decide +kernel
theorem d_Mo_orNone_10 : decode b_Mo_orNone 10 = .ok (.goto 4, 3) := by decide +kernel
theorem d_Mo_orNone_13 : decode b_Mo_orNone 13 = .ok (.iload_n 1, 1) := by decide +kernel
theorem d_Mo_orNone_14 : decode b_Mo_orNone 14 = .ok (.ireturn, 1) := by decide +kernel
theorem d_Mo_bits_0 : decode b_Mo_bits 0 = .ok (.iconst 0, 1) := by decide +kernel
theorem d_Mo_bits_1 : decode b_Mo_bits 1 = .ok (.istore_n 1, 1) := by decide +kernel
theorem d_Mo_bits_2 : decode b_Mo_bits 2 = .ok (.iload_n 0, 1) := by decide +kernel
theorem d_Mo_bits_3 : decode b_Mo_bits 3 = .ok (.istore_n 2, 1) := by decide +kernel
theorem d_Mo_bits_4 : decode b_Mo_bits 4 = .ok (.iload_n 2, 1) := by decide +kernel
theorem d_Mo_bits_5 : decode b_Mo_bits 5 = .ok (.ifCond .eq 15, 3) := by decide +kernel
theorem d_Mo_bits_8 : decode b_Mo_bits 8 = .ok (.iinc 1 1, 3) := by decide +kernel
theorem d_Mo_bits_11 : decode b_Mo_bits 11 = .ok (.iload_n 2, 1) := by decide +kernel
theorem d_Mo_bits_12 : decode b_Mo_bits 12 = .ok (.iload_n 2, 1) := by decide +kernel
theorem d_Mo_bits_13 : decode b_Mo_bits 13 = .ok (.iconst 1, 1) := by decide +kernel
theorem d_Mo_bits_14 : decode b_Mo_bits 14 = .ok (.isub, 1) := by decide +kernel
theorem d_Mo_bits_15 : decode b_Mo_bits 15 = .ok (.iand, 1) := by decide +kernel
theorem d_Mo_bits_16 : decode b_Mo_bits 16 = .ok (.istore_n 2, 1) := by decide +kernel
theorem d_Mo_bits_17 : decode b_Mo_bits 17 = .ok (.goto (-13), 3) := by decide +kernel
theorem d_Mo_bits_20 : decode b_Mo_bits 20 = .ok (.iload_n 1, 1) := by decide +kernel
theorem d_Mo_bits_21 : decode b_Mo_bits 21 = .ok (.ireturn, 1) := by decide +kernel
theorem d_Mo_isCell_0 : decode b_Mo_isCell 0 = .ok (.iload_n 0, 1) := by decide +kernel
theorem d_Mo_isCell_1 : decode b_Mo_isCell 1 = .ok (.iconst 0, 1) := by decide +kernel
theorem d_Mo_isCell_2 : decode b_Mo_isCell 2 = .ok (.bipush 15, 2) := by decide +kernel
theorem d_Mo_isCell_4 : decode b_Mo_isCell 4 = .ok (.invokestatic 70, 3) := by decide +kernel
theorem d_Mo_isCell_7 : decode b_Mo_isCell 7 = .ok (.ireturn, 1) := by decide +kernel
theorem d_Mo_isMany_0 : decode b_Mo_isMany 0 = .ok (.iload_n 0, 1) := by decide +kernel
theorem d_Mo_isMany_1 : decode b_Mo_isMany 1 = .ok (.iconst 0, 1) := by decide +kernel
theorem d_Mo_isMany_2 : decode b_Mo_isMany 2 = .ok (.bipush 99, 2) := by decide +kernel
theorem d_Mo_isMany_4 : decode b_Mo_isMany 4 = .ok (.invokestatic 70, 3) := by decide +kernel
theorem d_Mo_isMany_7 : decode b_Mo_isMany 7 = .ok (.ireturn, 1) := by decide +kernel
theorem d_Mo_guns_0 : decode b_Mo_guns 0 = .ok (.iload_n 1, 1) := by decide +kernel
theorem d_Mo_guns_1 : decode b_Mo_guns 1 = .ok (.invokestatic 74, 3) := by decide +kernel
theorem d_Mo_guns_4 : decode b_Mo_guns 4 = .ok (.ifCond .eq 12, 3) := by decide +kernel
theorem d_Mo_guns_7 : decode b_Mo_guns 7 = .ok (.aload_n 0, 1) := by decide +kernel
theorem d_Mo_guns_8 : decode b_Mo_guns 8 = .ok (.iconst 3, 1) := by decide +kernel
theorem d_Mo_guns_9 : decode b_Mo_guns 9 = .ok (.iload_n 1, 1) := by decide +kernel
theorem d_Mo_guns_10 : decode b_Mo_guns 10 = .ok (.invokevirtual 78, 3) := by decide +kernel
theorem d_Mo_guns_13 : decode b_Mo_guns 13 = .ok (.goto 9, 3) := by decide +kernel
theorem d_Mo_guns_16 : decode b_Mo_guns 16 = .ok (.aload_n 0, 1) := by decide +kernel
theorem d_Mo_guns_17 : decode b_Mo_guns 17 = .ok (.ldc 60, 2) := by decide +kernel
theorem d_Mo_guns_19 : decode b_Mo_guns 19 = .ok (.invokevirtual 66, 3) := by decide +kernel
theorem d_Mo_guns_22 : decode b_Mo_guns 22 = .ok (.ireturn, 1) := by decide +kernel
theorem d_Mo_isPlace_0 : decode b_Mo_isPlace 0 = .ok (.iload_n 0, 1) := by decide +kernel
theorem d_Mo_isPlace_1 : decode b_Mo_isPlace 1 = .ok (.iconst 0, 1) := by decide +kernel
theorem d_Mo_isPlace_2 : decode b_Mo_isPlace 2 = .ok (.iconst 5, 1) := by decide +kernel
theorem d_Mo_isPlace_3 : decode b_Mo_isPlace 3 = .ok (.invokestatic 70, 3) := by decide +kernel
theorem d_Mo_isPlace_6 : decode b_Mo_isPlace 6 = .ok (.ireturn, 1) := by decide +kernel
theorem d_Mo_place_0 : decode b_Mo_place 0 = .ok (.iload_n 1, 1) := by decide +kernel
theorem d_Mo_place_1 : decode b_Mo_place 1 = .ok (.invokestatic 82, 3) := by decide +kernel
theorem d_Mo_place_4 : decode b_Mo_place 4 = .ok (.ifCond .eq 21, 3) := by decide +kernel
theorem d_Mo_place_7 : decode b_Mo_place 7 = .ok (.iload_n 2, 1) := by decide +kernel
theorem d_Mo_place_8 : decode b_Mo_place 8 = .ok (.invokestatic 85, 3) := by decide +kernel
theorem d_Mo_place_11 : decode b_Mo_place 11 = .ok (.ifCond .eq 14, 3) := by decide +kernel
theorem d_Mo_place_14 : decode b_Mo_place 14 = .ok (.aload_n 0, 1) := by decide +kernel
theorem d_Mo_place_15 : decode b_Mo_place 15 = .ok (.iconst 4, 1) := by decide +kernel
theorem d_Mo_place_16 : decode b_Mo_place 16 = .ok (.iload_n 1, 1) := by decide +kernel
theorem d_Mo_place_17 : decode b_Mo_place 17 = .ok (.iadd, 1) := by decide +kernel
theorem d_Mo_place_18 : decode b_Mo_place 18 = .ok (.iload_n 2, 1) := by decide +kernel
theorem d_Mo_place_19 : decode b_Mo_place 19 = .ok (.invokevirtual 78, 3) := by decide +kernel
theorem d_Mo_place_22 : decode b_Mo_place 22 = .ok (.goto 9, 3) := by decide +kernel
theorem d_Mo_place_25 : decode b_Mo_place 25 = .ok (.aload_n 0, 1) := by decide +kernel
theorem d_Mo_place_26 : decode b_Mo_place 26 = .ok (.ldc 60, 2) := by decide +kernel
theorem d_Mo_place_28 : decode b_Mo_place 28 = .ok (.invokevirtual 66, 3) := by decide +kernel
theorem d_Mo_place_31 : decode b_Mo_place 31 = .ok (.ireturn, 1) := by decide +kernel
theorem d_Mo_listed_0 : decode b_Mo_listed 0 = .ok (.iload_n 1, 1) := by decide +kernel
theorem d_Mo_listed_1 : decode b_Mo_listed 1 = .ok (.invokestatic 82, 3) := by decide +kernel
theorem d_Mo_listed_4 : decode b_Mo_listed 4 = .ok (.ifCond .eq 14, 3) := by decide +kernel
theorem d_Mo_listed_7 : decode b_Mo_listed 7 = .ok (.aload_n 0, 1) := by decide +kernel
theorem d_Mo_listed_8 : decode b_Mo_listed 8 = .ok (.getfield 9, 3) := by decide +kernel
theorem d_Mo_listed_11 : decode b_Mo_listed 11 = .ok (.iconst 4, 1) := by decide +kernel
theorem d_Mo_listed_12 : decode b_Mo_listed 12 = .ok (.iload_n 1, 1) := by decide +kernel
theorem d_Mo_listed_13 : decode b_Mo_listed 13 = .ok (.iadd, 1) := by decide +kernel
theorem d_Mo_listed_14 : decode b_Mo_listed 14 = .ok (.iaload, 1) := by decide +kernel
theorem d_Mo_listed_15 : decode b_Mo_listed 15 = .ok (.goto 9, 3) := by decide +kernel
theorem d_Mo_listed_18 : decode b_Mo_listed 18 = .ok (.aload_n 0, 1) := by decide +kernel
theorem d_Mo_listed_19 : decode b_Mo_listed 19 = .ok (.ldc 60, 2) := by decide +kernel
theorem d_Mo_listed_21 : decode b_Mo_listed 21 = .ok (.invokevirtual 66, 3) := by decide +kernel
theorem d_Mo_listed_24 : decode b_Mo_listed 24 = .ok (.ireturn, 1) := by decide +kernel
theorem d_Mo_placeNow_0 : decode b_Mo_placeNow 0 = .ok (.iconst 4, 1) := by decide +kernel
theorem d_Mo_placeNow_1 : decode b_Mo_placeNow 1 = .ok (.aload_n 0, 1) := by decide +kernel
theorem d_Mo_placeNow_2 : decode b_Mo_placeNow 2 = .ok (.getfield 9, 3) := by decide +kernel
theorem d_Mo_placeNow_5 : decode b_Mo_placeNow 5 = .ok (.iconst 0, 1) := by decide +kernel
theorem d_Mo_placeNow_6 : decode b_Mo_placeNow 6 = .ok (.iaload, 1) := by decide +kernel
theorem d_Mo_placeNow_7 : decode b_Mo_placeNow 7 = .ok (.bipush 6, 2) := by decide +kernel
theorem d_Mo_placeNow_9 : decode b_Mo_placeNow 9 = .ok (.irem, 1) := by decide +kernel
theorem d_Mo_placeNow_10 : decode b_Mo_placeNow 10 = .ok (.iadd, 1) := by decide +kernel
theorem d_Mo_placeNow_11 : decode b_Mo_placeNow 11 = .ok (.ireturn, 1) := by decide +kernel
theorem d_Mo_personAt_0 : decode b_Mo_personAt 0 = .ok (.bipush 20, 2) := by decide +kernel
theorem d_Mo_personAt_2 : decode b_Mo_personAt 2 = .ok (.bipush 6, 2) := by decide +kernel
theorem d_Mo_personAt_4 : decode b_Mo_personAt 4 = .ok (.iload_n 0, 1) := by decide +kernel
theorem d_Mo_personAt_5 : decode b_Mo_personAt 5 = .ok (.imul, 1) := by decide +kernel
theorem d_Mo_personAt_6 : decode b_Mo_personAt 6 = .ok (.iadd, 1) := by decide +kernel
theorem d_Mo_personAt_7 : decode b_Mo_personAt 7 = .ok (.iload_n 1, 1) := by decide +kernel
theorem d_Mo_personAt_8 : decode b_Mo_personAt 8 = .ok (.iadd, 1) := by decide +kernel
theorem d_Mo_personAt_9 : decode b_Mo_personAt 9 = .ok (.ireturn, 1) := by decide +kernel
theorem d_Mo_personIs_0 : decode b_Mo_personIs 0 = .ok (.aload_n 0, 1) := by decide +kernel
theorem d_Mo_personIs_1 : decode b_Mo_personIs 1 = .ok (.getfield 9, 3) := by decide +kernel
theorem d_Mo_personIs_4 : decode b_Mo_personIs 4 = .ok (.iload_n 1, 1) := by decide +kernel
theorem d_Mo_personIs_5 : decode b_Mo_personIs 5 = .ok (.iload_n 2, 1) := by decide +kernel
theorem d_Mo_personIs_6 : decode b_Mo_personIs 6 = .ok (.invokestatic 88, 3) := by decide +kernel
theorem d_Mo_personIs_9 : decode b_Mo_personIs 9 = .ok (.iaload, 1) := by decide +kernel
theorem d_Mo_personIs_10 : decode b_Mo_personIs 10 = .ok (.ireturn, 1) := by decide +kernel
theorem d_Mo_isPerson_0 : decode b_Mo_isPerson 0 = .ok (.iload_n 1, 1) := by decide +kernel
theorem d_Mo_isPerson_1 : decode b_Mo_isPerson 1 = .ok (.iconst 0, 1) := by decide +kernel
theorem d_Mo_isPerson_2 : decode b_Mo_isPerson 2 = .ok (.aload_n 0, 1) := by decide +kernel
theorem d_Mo_isPerson_3 : decode b_Mo_isPerson 3 = .ok (.getfield 9, 3) := by decide +kernel
theorem d_Mo_isPerson_6 : decode b_Mo_isPerson 6 = .ok (.iconst 1, 1) := by decide +kernel
theorem d_Mo_isPerson_7 : decode b_Mo_isPerson 7 = .ok (.iaload, 1) := by decide +kernel
theorem d_Mo_isPerson_8 : decode b_Mo_isPerson 8 = .ok (.iconst 1, 1) := by decide +kernel
theorem d_Mo_isPerson_9 : decode b_Mo_isPerson 9 = .ok (.isub, 1) := by decide +kernel
theorem d_Mo_isPerson_10 : decode b_Mo_isPerson 10 = .ok (.invokestatic 70, 3) := by decide +kernel
theorem d_Mo_isPerson_13 : decode b_Mo_isPerson 13 = .ok (.ireturn, 1) := by decide +kernel
theorem d_Mo_isKind_0 : decode b_Mo_isKind 0 = .ok (.iload_n 0, 1) := by decide +kernel
theorem d_Mo_isKind_1 : decode b_Mo_isKind 1 = .ok (.iconst 0, 1) := by decide +kernel
theorem d_Mo_isKind_2 : decode b_Mo_isKind 2 = .ok (.bipush 6, 2) := by decide +kernel
theorem d_Mo_isKind_4 : decode b_Mo_isKind 4 = .ok (.invokestatic 70, 3) := by decide +kernel
theorem d_Mo_isKind_7 : decode b_Mo_isKind 7 = .ok (.ireturn, 1) := by decide +kernel
theorem d_Mo_liftOf_0 : decode b_Mo_liftOf 0 = .ok (.iload_n 0, 1) := by decide +kernel
theorem d_Mo_liftOf_1 : decode b_Mo_liftOf 1 = .ok (.ifCond .ne 7, 3) := by decide +kernel
theorem d_Mo_liftOf_4 : decode b_Mo_liftOf 4 = .ok (.iconst 0, 1) := by decide +kernel
theorem d_Mo_liftOf_5 : decode b_Mo_liftOf 5 = .ok (.goto 5, 3) := by decide +kernel
theorem d_Mo_liftOf_8 : decode b_Mo_liftOf 8 = .ok (.bipush 15, 2) := by decide +kernel
theorem d_Mo_liftOf_10 : decode b_Mo_liftOf 10 = .ok (.ireturn, 1) := by decide +kernel
theorem d_Mo_comes_0 : decode b_Mo_comes 0 = .ok (.aload_n 0, 1) := by decide +kernel
theorem d_Mo_comes_1 : decode b_Mo_comes 1 = .ok (.getfield 9, 3) := by decide +kernel
theorem d_Mo_comes_4 : decode b_Mo_comes 4 = .ok (.iconst 1, 1) := by decide +kernel
theorem d_Mo_comes_5 : decode b_Mo_comes 5 = .ok (.iaload, 1) := by decide +kernel
theorem d_Mo_comes_6 : decode b_Mo_comes 6 = .ok (.istore_n 3, 1) := by decide +kernel
theorem d_Mo_comes_7 : decode b_Mo_comes 7 = .ok (.aload_n 0, 1) := by decide +kernel
theorem d_Mo_comes_8 : decode b_Mo_comes 8 = .ok (.getfield 9, 3) := by decide +kernel
theorem d_Mo_comes_11 : decode b_Mo_comes 11 = .ok (.iload_n 3, 1) := by decide +kernel
theorem d_Mo_comes_12 : decode b_Mo_comes 12 = .ok (.iconst 0, 1) := by decide +kernel
theorem d_Mo_comes_13 : decode b_Mo_comes 13 = .ok (.invokestatic 88, 3) := by decide +kernel
theorem d_Mo_comes_16 : decode b_Mo_comes 16 = .ok (.iload_n 1, 1) := by decide +kernel
theorem d_Mo_comes_17 : decode b_Mo_comes 17 = .ok (.iastore, 1) := by decide +kernel
theorem d_Mo_comes_18 : decode b_Mo_comes 18 = .ok (.aload_n 0, 1) := by decide +kernel
theorem d_Mo_comes_19 : decode b_Mo_comes 19 = .ok (.getfield 9, 3) := by decide +kernel
theorem d_Mo_comes_22 : decode b_Mo_comes 22 = .ok (.iload_n 3, 1) := by decide +kernel
theorem d_Mo_comes_23 : decode b_Mo_comes 23 = .ok (.iconst 1, 1) := by decide +kernel
theorem d_Mo_comes_24 : decode b_Mo_comes 24 = .ok (.invokestatic 88, 3) := by decide +kernel
theorem d_Mo_comes_27 : decode b_Mo_comes 27 = .ok (.iload_n 2, 1) := by decide +kernel
theorem d_Mo_comes_28 : decode b_Mo_comes 28 = .ok (.iastore, 1) := by decide +kernel
theorem d_Mo_comes_29 : decode b_Mo_comes 29 = .ok (.aload_n 0, 1) := by decide +kernel
theorem d_Mo_comes_30 : decode b_Mo_comes 30 = .ok (.getfield 9, 3) := by decide +kernel
theorem d_Mo_comes_33 : decode b_Mo_comes 33 = .ok (.iload_n 3, 1) := by decide +kernel
theorem d_Mo_comes_34 : decode b_Mo_comes 34 = .ok (.iconst 2, 1) := by decide +kernel
theorem d_Mo_comes_35 : decode b_Mo_comes 35 = .ok (.invokestatic 88, 3) := by decide +kernel
theorem d_Mo_comes_38 : decode b_Mo_comes 38 = .ok (.iload_n 2, 1) := by decide +kernel
theorem d_Mo_comes_39 : decode b_Mo_comes 39 = .ok (.invokestatic 91, 3) := by decide +kernel
theorem d_Mo_comes_42 : decode b_Mo_comes 42 = .ok (.iastore, 1) := by decide +kernel
theorem d_Mo_comes_43 : decode b_Mo_comes 43 = .ok (.aload_n 0, 1) := by decide +kernel
theorem d_Mo_comes_44 : decode b_Mo_comes 44 = .ok (.getfield 9, 3) := by decide +kernel
theorem d_Mo_comes_47 : decode b_Mo_comes 47 = .ok (.iload_n 3, 1) := by decide +kernel
theorem d_Mo_comes_48 : decode b_Mo_comes 48 = .ok (.iconst 3, 1) := by decide +kernel
theorem d_Mo_comes_49 : decode b_Mo_comes 49 = .ok (.invokestatic 88, 3) := by decide +kernel
theorem d_Mo_comes_52 : decode b_Mo_comes 52 = .ok (.bipush 30, 2) := by decide +kernel
theorem d_Mo_comes_54 : decode b_Mo_comes 54 = .ok (.iastore, 1) := by decide +kernel
theorem d_Mo_comes_55 : decode b_Mo_comes 55 = .ok (.aload_n 0, 1) := by decide +kernel
theorem d_Mo_comes_56 : decode b_Mo_comes 56 = .ok (.getfield 9, 3) := by decide +kernel
theorem d_Mo_comes_59 : decode b_Mo_comes 59 = .ok (.iload_n 3, 1) := by decide +kernel
theorem d_Mo_comes_60 : decode b_Mo_comes 60 = .ok (.iconst 4, 1) := by decide +kernel
theorem d_Mo_comes_61 : decode b_Mo_comes 61 = .ok (.invokestatic 88, 3) := by decide +kernel
theorem d_Mo_comes_64 : decode b_Mo_comes 64 = .ok (.iconst 0, 1) := by decide +kernel
theorem d_Mo_comes_65 : decode b_Mo_comes 65 = .ok (.iastore, 1) := by decide +kernel
theorem d_Mo_comes_66 : decode b_Mo_comes 66 = .ok (.aload_n 0, 1) := by decide +kernel
theorem d_Mo_comes_67 : decode b_Mo_comes 67 = .ok (.getfield 9, 3) := by decide +kernel
theorem d_Mo_comes_70 : decode b_Mo_comes 70 = .ok (.iload_n 3, 1) := by decide +kernel
theorem d_Mo_comes_71 : decode b_Mo_comes 71 = .ok (.iconst 5, 1) := by decide +kernel
theorem d_Mo_comes_72 : decode b_Mo_comes 72 = .ok (.invokestatic 88, 3) := by decide +kernel
theorem d_Mo_comes_75 : decode b_Mo_comes 75 = .ok (.iconst 0, 1) := by decide +kernel
theorem d_Mo_comes_76 : decode b_Mo_comes 76 = .ok (.iastore, 1) := by decide +kernel
theorem d_Mo_comes_77 : decode b_Mo_comes 77 = .ok (.aload_n 0, 1) := by decide +kernel
theorem d_Mo_comes_78 : decode b_Mo_comes 78 = .ok (.getfield 9, 3) := by decide +kernel
theorem d_Mo_comes_81 : decode b_Mo_comes 81 = .ok (.iconst 1, 1) := by decide +kernel
theorem d_Mo_comes_82 : decode b_Mo_comes 82 = .ok (.dup2, 1) := by decide +kernel
theorem d_Mo_comes_83 : decode b_Mo_comes 83 = .ok (.iaload, 1) := by decide +kernel
theorem d_Mo_comes_84 : decode b_Mo_comes 84 = .ok (.iconst 1, 1) := by decide +kernel
theorem d_Mo_comes_85 : decode b_Mo_comes 85 = .ok (.iadd, 1) := by decide +kernel
theorem d_Mo_comes_86 : decode b_Mo_comes 86 = .ok (.iastore, 1) := by decide +kernel
theorem d_Mo_comes_87 : decode b_Mo_comes 87 = .ok (.iload_n 3, 1) := by decide +kernel
theorem d_Mo_comes_88 : decode b_Mo_comes 88 = .ok (.ireturn, 1) := by decide +kernel
theorem d_Mo_person_0 : decode b_Mo_person 0 = .ok (.iload_n 1, 1) := by decide +kernel
theorem d_Mo_person_1 : decode b_Mo_person 1 = .ok (.invokestatic 94, 3) := by decide +kernel
theorem d_Mo_person_4 : decode b_Mo_person 4 = .ok (.ifCond .eq 12, 3) := by decide +kernel
theorem d_Mo_person_7 : decode b_Mo_person 7 = .ok (.iload_n 2, 1) := by decide +kernel
theorem d_Mo_person_8 : decode b_Mo_person 8 = .ok (.iconst 0, 1) := by decide +kernel
theorem d_Mo_person_9 : decode b_Mo_person 9 = .ok (.iconst 1, 1) := by decide +kernel
theorem d_Mo_person_10 : decode b_Mo_person 10 = .ok (.invokestatic 70, 3) := by decide +kernel
theorem d_Mo_person_13 : decode b_Mo_person 13 = .ok (.ifCond .ne 10, 3) := by decide +kernel
theorem d_Mo_person_16 : decode b_Mo_person 16 = .ok (.aload_n 0, 1) := by decide +kernel
theorem d_Mo_person_17 : decode b_Mo_person 17 = .ok (.ldc 60, 2) := by decide +kernel
theorem d_Mo_person_19 : decode b_Mo_person 19 = .ok (.invokevirtual 66, 3) := by decide +kernel
theorem d_Mo_person_22 : decode b_Mo_person 22 = .ok (.ireturn, 1) := by decide +kernel
theorem d_Mo_person_23 : decode b_Mo_person 23 = .ok (.aload_n 0, 1) := by decide +kernel
theorem d_Mo_person_24 : decode b_Mo_person 24 = .ok (.getfield 9, 3) := by decide +kernel
theorem d_Mo_person_27 : decode b_Mo_person 27 = .ok (.iconst 1, 1) := by decide +kernel
theorem d_Mo_person_28 : decode b_Mo_person 28 = .ok (.iaload, 1) := by decide +kernel
theorem d_Mo_person_29 : decode b_Mo_person 29 = .ok (.bipush 8, 2) := by decide +kernel
theorem d_Mo_person_31 : decode b_Mo_person 31 = .ok (.if_icmp .ne 12, 3) := by decide +kernel
theorem d_Mo_person_34 : decode b_Mo_person 34 = .ok (.aload_n 0, 1) := by decide +kernel
theorem d_Mo_person_35 : decode b_Mo_person 35 = .ok (.ldc 97, 2) := by decide +kernel
theorem d_Mo_person_37 : decode b_Mo_person 37 = .ok (.invokevirtual 66, 3) := by decide +kernel
theorem d_Mo_person_40 : decode b_Mo_person 40 = .ok (.goto 9, 3) := by decide +kernel
theorem d_Mo_person_43 : decode b_Mo_person 43 = .ok (.aload_n 0, 1) := by decide +kernel
theorem d_Mo_person_44 : decode b_Mo_person 44 = .ok (.iload_n 1, 1) := by decide +kernel
theorem d_Mo_person_45 : decode b_Mo_person 45 = .ok (.iload_n 2, 1) := by decide +kernel
theorem d_Mo_person_46 : decode b_Mo_person 46 = .ok (.invokevirtual 98, 3) := by decide +kernel
theorem d_Mo_person_49 : decode b_Mo_person 49 = .ok (.ireturn, 1) := by decide +kernel
theorem d_Mo_steps_0 : decode b_Mo_steps 0 = .ok (.iconst 1, 1) := by decide +kernel
theorem d_Mo_steps_1 : decode b_Mo_steps 1 = .ok (.iconst 3, 1) := by decide +kernel
theorem d_Mo_steps_2 : decode b_Mo_steps 2 = .ok (.aload_n 0, 1) := by decide +kernel
theorem d_Mo_steps_3 : decode b_Mo_steps 3 = .ok (.iload_n 1, 1) := by decide +kernel
theorem d_Mo_steps_4 : decode b_Mo_steps 4 = .ok (.iconst 4, 1) := by decide +kernel
theorem d_Mo_steps_5 : decode b_Mo_steps 5 = .ok (.invokevirtual 101, 3) := by decide +kernel
theorem d_Mo_steps_8 : decode b_Mo_steps 8 = .ok (.isub, 1) := by decide +kernel
theorem d_Mo_steps_9 : decode b_Mo_steps 9 = .ok (.invokestatic 104, 3) := by decide +kernel
theorem d_Mo_steps_12 : decode b_Mo_steps 12 = .ok (.istore_n 2, 1) := by decide +kernel
theorem d_Mo_steps_13 : decode b_Mo_steps 13 = .ok (.aload_n 0, 1) := by decide +kernel
theorem d_Mo_steps_14 : decode b_Mo_steps 14 = .ok (.iload_n 1, 1) := by decide +kernel
theorem d_Mo_steps_15 : decode b_Mo_steps 15 = .ok (.iconst 0, 1) := by decide +kernel
theorem d_Mo_steps_16 : decode b_Mo_steps 16 = .ok (.invokevirtual 101, 3) := by decide +kernel
theorem d_Mo_steps_19 : decode b_Mo_steps 19 = .ok (.tableswitch 78 1 6 #[37, 55, 59, 59, 69, 45], 37) := by decide +kernel
theorem d_Mo_steps_56 : decode b_Mo_steps 56 = .ok (.iconst 1, 1) := by decide +kernel
theorem d_Mo_steps_57 : decode b_Mo_steps 57 = .ok (.iload_n 2, 1) := by decide +kernel
theorem d_Mo_steps_58 : decode b_Mo_steps 58 = .ok (.iconst 1, 1) := by decide +kernel
theorem d_Mo_steps_59 : decode b_Mo_steps 59 = .ok (.isub, 1) := by decide +kernel
theorem d_Mo_steps_60 : decode b_Mo_steps 60 = .ok (.invokestatic 104, 3) := by decide +kernel
theorem d_Mo_steps_63 : decode b_Mo_steps 63 = .ok (.ireturn, 1) := by decide +kernel
theorem d_Mo_steps_64 : decode b_Mo_steps 64 = .ok (.iconst 1, 1) := by decide +kernel
theorem d_Mo_steps_65 : decode b_Mo_steps 65 = .ok (.iload_n 2, 1) := by decide +kernel
theorem d_Mo_steps_66 : decode b_Mo_steps 66 = .ok (.iconst 1, 1) := by decide +kernel
theorem d_Mo_steps_67 : decode b_Mo_steps 67 = .ok (.isub, 1) := by decide +kernel
theorem d_Mo_steps_68 : decode b_Mo_steps 68 = .ok (.invokestatic 104, 3) := by decide +kernel
theorem d_Mo_steps_71 : decode b_Mo_steps 71 = .ok (.iconst 2, 1) := by decide +kernel
theorem d_Mo_steps_72 : decode b_Mo_steps 72 = .ok (.iadd, 1) := by decide +kernel
theorem d_Mo_steps_73 : decode b_Mo_steps 73 = .ok (.ireturn, 1) := by decide +kernel
theorem d_Mo_steps_74 : decode b_Mo_steps 74 = .ok (.iload_n 2, 1) := by decide +kernel
theorem d_Mo_steps_75 : decode b_Mo_steps 75 = .ok (.iconst 1, 1) := by decide +kernel
theorem d_Mo_steps_76 : decode b_Mo_steps 76 = .ok (.iadd, 1) := by decide +kernel
theorem d_Mo_steps_77 : decode b_Mo_steps 77 = .ok (.ireturn, 1) := by decide +kernel
theorem d_Mo_steps_78 : decode b_Mo_steps 78 = .ok (.iconst 1, 1) := by decide +kernel
theorem d_Mo_steps_79 : decode b_Mo_steps 79 = .ok (.iload_n 2, 1) := by decide +kernel
theorem d_Mo_steps_80 : decode b_Mo_steps 80 = .ok (.iconst 1, 1) := by decide +kernel
theorem d_Mo_steps_81 : decode b_Mo_steps 81 = .ok (.iadd, 1) := by decide +kernel
theorem d_Mo_steps_82 : decode b_Mo_steps 82 = .ok (.iconst 2, 1) := by decide +kernel
theorem d_Mo_steps_83 : decode b_Mo_steps 83 = .ok (.idiv, 1) := by decide +kernel
theorem d_Mo_steps_84 : decode b_Mo_steps 84 = .ok (.invokestatic 104, 3) := by decide +kernel
theorem d_Mo_steps_87 : decode b_Mo_steps 87 = .ok (.ireturn, 1) := by decide +kernel
theorem d_Mo_steps_88 : decode b_Mo_steps 88 = .ok (.aload_n 0, 1) := by decide +kernel
theorem d_Mo_steps_89 : decode b_Mo_steps 89 = .ok (.getfield 9, 3) := by decide +kernel
theorem d_Mo_steps_92 : decode b_Mo_steps 92 = .ok (.iconst 0, 1) := by decide +kernel
theorem d_Mo_steps_93 : decode b_Mo_steps 93 = .ok (.iaload, 1) := by decide +kernel
theorem d_Mo_steps_94 : decode b_Mo_steps 94 = .ok (.iconst 2, 1) := by decide +kernel
theorem d_Mo_steps_95 : decode b_Mo_steps 95 = .ok (.irem, 1) := by decide +kernel
theorem d_Mo_steps_96 : decode b_Mo_steps 96 = .ok (.ireturn, 1) := by decide +kernel
theorem d_Mo_steps_97 : decode b_Mo_steps 97 = .ok (.iload_n 2, 1) := by decide +kernel
theorem d_Mo_steps_98 : decode b_Mo_steps 98 = .ok (.ireturn, 1) := by decide +kernel
theorem d_Mo_crosses_0 : decode b_Mo_crosses 0 = .ok (.aload_n 0, 1) := by decide +kernel
theorem d_Mo_crosses_1 : decode b_Mo_crosses 1 = .ok (.iload_n 1, 1) := by decide +kernel
theorem d_Mo_crosses_2 : decode b_Mo_crosses 2 = .ok (.iconst 0, 1) := by decide +kernel
theorem d_Mo_crosses_3 : decode b_Mo_crosses 3 = .ok (.invokevirtual 101, 3) := by decide +kernel
theorem d_Mo_crosses_6 : decode b_Mo_crosses 6 = .ok (.tableswitch 113 2 6 #[50, 65, 82, 111, 34], 34) := by decide +kernel
theorem d_Mo_crosses_40 : decode b_Mo_crosses 40 = .ok (.aload_n 0, 1) := by decide +kernel
theorem d_Mo_crosses_41 : decode b_Mo_crosses 41 = .ok (.iload_n 1, 1) := by decide +kernel
theorem d_Mo_crosses_42 : decode b_Mo_crosses 42 = .ok (.iconst 5, 1) := by decide +kernel
theorem d_Mo_crosses_43 : decode b_Mo_crosses 43 = .ok (.invokevirtual 101, 3) := by decide +kernel
theorem d_Mo_crosses_46 : decode b_Mo_crosses 46 = .ok (.iconst 5, 1) := by decide +kernel
theorem d_Mo_crosses_47 : decode b_Mo_crosses 47 = .ok (.if_icmp .lt 7, 3) := by decide +kernel
theorem d_Mo_crosses_50 : decode b_Mo_crosses 50 = .ok (.iconst 1, 1) := by decide +kernel
theorem d_Mo_crosses_51 : decode b_Mo_crosses 51 = .ok (.goto 4, 3) := by decide +kernel
theorem d_Mo_crosses_54 : decode b_Mo_crosses 54 = .ok (.iconst 0, 1) := by decide +kernel
theorem d_Mo_crosses_55 : decode b_Mo_crosses 55 = .ok (.ireturn, 1) := by decide +kernel
theorem d_Mo_crosses_56 : decode b_Mo_crosses 56 = .ok (.aload_n 0, 1) := by decide +kernel
theorem d_Mo_crosses_57 : decode b_Mo_crosses 57 = .ok (.getfield 9, 3) := by decide +kernel
theorem d_Mo_crosses_60 : decode b_Mo_crosses 60 = .ok (.iconst 3, 1) := by decide +kernel
theorem d_Mo_crosses_61 : decode b_Mo_crosses 61 = .ok (.iaload, 1) := by decide +kernel
theorem d_Mo_crosses_62 : decode b_Mo_crosses 62 = .ok (.ifCond .ne 7, 3) := by decide +kernel
theorem d_Mo_crosses_65 : decode b_Mo_crosses 65 = .ok (.iconst 1, 1) := by decide +kernel
theorem d_Mo_crosses_66 : decode b_Mo_crosses 66 = .ok (.goto 4, 3) := by decide +kernel
theorem d_Mo_crosses_69 : decode b_Mo_crosses 69 = .ok (.iconst 0, 1) := by decide +kernel
theorem d_Mo_crosses_70 : decode b_Mo_crosses 70 = .ok (.ireturn, 1) := by decide +kernel
theorem d_Mo_crosses_71 : decode b_Mo_crosses 71 = .ok (.aload_n 0, 1) := by decide +kernel
theorem d_Mo_crosses_72 : decode b_Mo_crosses 72 = .ok (.getfield 9, 3) := by decide +kernel
theorem d_Mo_crosses_75 : decode b_Mo_crosses 75 = .ok (.iconst 3, 1) := by decide +kernel
theorem d_Mo_crosses_76 : decode b_Mo_crosses 76 = .ok (.iaload, 1) := by decide +kernel
theorem d_Mo_crosses_77 : decode b_Mo_crosses 77 = .ok (.bipush 20, 2) := by decide +kernel
theorem d_Mo_crosses_79 : decode b_Mo_crosses 79 = .ok (.if_icmp .gt 7, 3) := by decide +kernel
theorem d_Mo_crosses_82 : decode b_Mo_crosses 82 = .ok (.iconst 1, 1) := by decide +kernel
theorem d_Mo_crosses_83 : decode b_Mo_crosses 83 = .ok (.goto 4, 3) := by decide +kernel
theorem d_Mo_crosses_86 : decode b_Mo_crosses 86 = .ok (.iconst 0, 1) := by decide +kernel
theorem d_Mo_crosses_87 : decode b_Mo_crosses 87 = .ok (.ireturn, 1) := by decide +kernel
theorem d_Mo_crosses_88 : decode b_Mo_crosses 88 = .ok (.aload_n 0, 1) := by decide +kernel
theorem d_Mo_crosses_89 : decode b_Mo_crosses 89 = .ok (.getfield 9, 3) := by decide +kernel
theorem d_Mo_crosses_92 : decode b_Mo_crosses 92 = .ok (.iconst 3, 1) := by decide +kernel
theorem d_Mo_crosses_93 : decode b_Mo_crosses 93 = .ok (.iaload, 1) := by decide +kernel
theorem d_Mo_crosses_94 : decode b_Mo_crosses 94 = .ok (.bipush 20, 2) := by decide +kernel
theorem d_Mo_crosses_96 : decode b_Mo_crosses 96 = .ok (.if_icmp .le 15, 3) := by decide +kernel
theorem d_Mo_crosses_99 : decode b_Mo_crosses 99 = .ok (.aload_n 0, 1) := by decide +kernel
theorem d_Mo_crosses_100 : decode b_Mo_crosses 100 = .ok (.iload_n 1, 1) := by decide +kernel
theorem d_Mo_crosses_101 : decode b_Mo_crosses 101 = .ok (.iconst 5, 1) := by decide +kernel
theorem d_Mo_crosses_102 : decode b_Mo_crosses 102 = .ok (.invokevirtual 101, 3) := by decide +kernel
theorem d_Mo_crosses_105 : decode b_Mo_crosses 105 = .ok (.iconst 2, 1) := by decide +kernel
theorem d_Mo_crosses_106 : decode b_Mo_crosses 106 = .ok (.irem, 1) := by decide +kernel
theorem d_Mo_crosses_107 : decode b_Mo_crosses 107 = .ok (.iconst 1, 1) := by decide +kernel
theorem d_Mo_crosses_108 : decode b_Mo_crosses 108 = .ok (.if_icmp .ne 7, 3) := by decide +kernel
theorem d_Mo_crosses_111 : decode b_Mo_crosses 111 = .ok (.iconst 1, 1) := by decide +kernel
theorem d_Mo_crosses_112 : decode b_Mo_crosses 112 = .ok (.goto 4, 3) := by decide +kernel
theorem d_Mo_crosses_115 : decode b_Mo_crosses 115 = .ok (.iconst 0, 1) := by decide +kernel
theorem d_Mo_crosses_116 : decode b_Mo_crosses 116 = .ok (.ireturn, 1) := by decide +kernel
theorem d_Mo_crosses_117 : decode b_Mo_crosses 117 = .ok (.iconst 1, 1) := by decide +kernel
theorem d_Mo_crosses_118 : decode b_Mo_crosses 118 = .ok (.ireturn, 1) := by decide +kernel
theorem d_Mo_crosses_119 : decode b_Mo_crosses 119 = .ok (.iconst 0, 1) := by decide +kernel
theorem d_Mo_crosses_120 : decode b_Mo_crosses 120 = .ok (.ireturn, 1) := by decide +kernel
theorem d_Mo_calms_0 : decode b_Mo_calms 0 = .ok (.aload_n 0, 1) := by decide +kernel
theorem d_Mo_calms_1 : decode b_Mo_calms 1 = .ok (.iload_n 1, 1) := by decide +kernel
theorem d_Mo_calms_2 : decode b_Mo_calms 2 = .ok (.iconst 0, 1) := by decide +kernel
theorem d_Mo_calms_3 : decode b_Mo_calms 3 = .ok (.invokevirtual 101, 3) := by decide +kernel
theorem d_Mo_calms_6 : decode b_Mo_calms 6 = .ok (.tableswitch 50 1 6 #[38, 43, 45, 47, 47, 40], 38) := by decide +kernel
theorem d_Mo_calms_44 : decode b_Mo_calms 44 = .ok (.iconst 2, 1) := by decide +kernel
theorem d_Mo_calms_45 : decode b_Mo_calms 45 = .ok (.ireturn, 1) := by decide +kernel
theorem d_Mo_calms_46 : decode b_Mo_calms 46 = .ok (.bipush 6, 2) := by decide +kernel
theorem d_Mo_calms_48 : decode b_Mo_calms 48 = .ok (.ireturn, 1) := by decide +kernel
theorem d_Mo_calms_49 : decode b_Mo_calms 49 = .ok (.iconst 0, 1) := by decide +kernel
theorem d_Mo_calms_50 : decode b_Mo_calms 50 = .ok (.ireturn, 1) := by decide +kernel
theorem d_Mo_calms_51 : decode b_Mo_calms 51 = .ok (.iconst 5, 1) := by decide +kernel
theorem d_Mo_calms_52 : decode b_Mo_calms 52 = .ok (.ireturn, 1) := by decide +kernel
theorem d_Mo_calms_53 : decode b_Mo_calms 53 = .ok (.bipush 10, 2) := by decide +kernel
theorem d_Mo_calms_55 : decode b_Mo_calms 55 = .ok (.ireturn, 1) := by decide +kernel
theorem d_Mo_calms_56 : decode b_Mo_calms 56 = .ok (.iconst 1, 1) := by decide +kernel
theorem d_Mo_calms_57 : decode b_Mo_calms 57 = .ok (.ireturn, 1) := by decide +kernel
theorem d_Mo_tires_0 : decode b_Mo_tires 0 = .ok (.aload_n 0, 1) := by decide +kernel
theorem d_Mo_tires_1 : decode b_Mo_tires 1 = .ok (.iload_n 1, 1) := by decide +kernel
theorem d_Mo_tires_2 : decode b_Mo_tires 2 = .ok (.iconst 0, 1) := by decide +kernel
theorem d_Mo_tires_3 : decode b_Mo_tires 3 = .ok (.invokevirtual 101, 3) := by decide +kernel
theorem d_Mo_tires_6 : decode b_Mo_tires 6 = .ok (.tableswitch 55 2 6 #[51, 51, 51, 53, 34], 34) := by decide +kernel
theorem d_Mo_tires_40 : decode b_Mo_tires 40 = .ok (.aload_n 0, 1) := by decide +kernel
theorem d_Mo_tires_41 : decode b_Mo_tires 41 = .ok (.getfield 9, 3) := by decide +kernel
theorem d_Mo_tires_44 : decode b_Mo_tires 44 = .ok (.iconst 0, 1) := by decide +kernel
theorem d_Mo_tires_45 : decode b_Mo_tires 45 = .ok (.iaload, 1) := by decide +kernel
theorem d_Mo_tires_46 : decode b_Mo_tires 46 = .ok (.iconst 3, 1) := by decide +kernel
theorem d_Mo_tires_47 : decode b_Mo_tires 47 = .ok (.irem, 1) := by decide +kernel
theorem d_Mo_tires_48 : decode b_Mo_tires 48 = .ok (.ifCond .ne 7, 3) := by decide +kernel
theorem d_Mo_tires_51 : decode b_Mo_tires 51 = .ok (.iconst 2, 1) := by decide +kernel
theorem d_Mo_tires_52 : decode b_Mo_tires 52 = .ok (.goto 4, 3) := by decide +kernel
theorem d_Mo_tires_55 : decode b_Mo_tires 55 = .ok (.iconst 1, 1) := by decide +kernel
theorem d_Mo_tires_56 : decode b_Mo_tires 56 = .ok (.ireturn, 1) := by decide +kernel
theorem d_Mo_tires_57 : decode b_Mo_tires 57 = .ok (.iconst 2, 1) := by decide +kernel
theorem d_Mo_tires_58 : decode b_Mo_tires 58 = .ok (.ireturn, 1) := by decide +kernel
theorem d_Mo_tires_59 : decode b_Mo_tires 59 = .ok (.iconst 0, 1) := by decide +kernel
theorem d_Mo_tires_60 : decode b_Mo_tires 60 = .ok (.ireturn, 1) := by decide +kernel
theorem d_Mo_tires_61 : decode b_Mo_tires 61 = .ok (.iconst 1, 1) := by decide +kernel
theorem d_Mo_tires_62 : decode b_Mo_tires 62 = .ok (.ireturn, 1) := by decide +kernel
theorem d_Mo_told_0 : decode b_Mo_told 0 = .ok (.iload_n 2, 1) := by decide +kernel
theorem d_Mo_told_1 : decode b_Mo_told 1 = .ok (.tableswitch 63 6 9 #[31, 37, 51, 57], 31) := by decide +kernel
theorem d_Mo_told_32 : decode b_Mo_told 32 = .ok (.aload_n 0, 1) := by decide +kernel
theorem d_Mo_told_33 : decode b_Mo_told 33 = .ok (.iload_n 1, 1) := by decide +kernel
theorem d_Mo_told_34 : decode b_Mo_told 34 = .ok (.invokevirtual 109, 3) := by decide +kernel
theorem d_Mo_told_37 : decode b_Mo_told 37 = .ok (.ireturn, 1) := by decide +kernel
theorem d_Mo_told_38 : decode b_Mo_told 38 = .ok (.aload_n 0, 1) := by decide +kernel
theorem d_Mo_told_39 : decode b_Mo_told 39 = .ok (.iload_n 1, 1) := by decide +kernel
theorem d_Mo_told_40 : decode b_Mo_told 40 = .ok (.invokevirtual 112, 3) := by decide +kernel
theorem d_Mo_told_43 : decode b_Mo_told 43 = .ok (.ifCond .eq 7, 3) := by decide +kernel
theorem d_Mo_told_46 : decode b_Mo_told 46 = .ok (.iconst 1, 1) := by decide +kernel
theorem d_Mo_told_47 : decode b_Mo_told 47 = .ok (.goto 4, 3) := by decide +kernel
theorem d_Mo_told_50 : decode b_Mo_told 50 = .ok (.iconst 0, 1) := by decide +kernel
theorem d_Mo_told_51 : decode b_Mo_told 51 = .ok (.ireturn, 1) := by decide +kernel
theorem d_Mo_told_52 : decode b_Mo_told 52 = .ok (.aload_n 0, 1) := by decide +kernel
theorem d_Mo_told_53 : decode b_Mo_told 53 = .ok (.iload_n 1, 1) := by decide +kernel
theorem d_Mo_told_54 : decode b_Mo_told 54 = .ok (.invokevirtual 115, 3) := by decide +kernel
theorem d_Mo_told_57 : decode b_Mo_told 57 = .ok (.ireturn, 1) := by decide +kernel
theorem d_Mo_told_58 : decode b_Mo_told 58 = .ok (.aload_n 0, 1) := by decide +kernel
theorem d_Mo_told_59 : decode b_Mo_told 59 = .ok (.iload_n 1, 1) := by decide +kernel
theorem d_Mo_told_60 : decode b_Mo_told 60 = .ok (.invokevirtual 118, 3) := by decide +kernel
theorem d_Mo_told_63 : decode b_Mo_told 63 = .ok (.ireturn, 1) := by decide +kernel
theorem d_Mo_told_64 : decode b_Mo_told 64 = .ok (.aload_n 0, 1) := by decide +kernel
theorem d_Mo_told_65 : decode b_Mo_told 65 = .ok (.iload_n 1, 1) := by decide +kernel
theorem d_Mo_told_66 : decode b_Mo_told 66 = .ok (.iload_n 2, 1) := by decide +kernel
theorem d_Mo_told_67 : decode b_Mo_told 67 = .ok (.invokevirtual 101, 3) := by decide +kernel
theorem d_Mo_told_70 : decode b_Mo_told 70 = .ok (.ireturn, 1) := by decide +kernel
theorem d_Mo_of_0 : decode b_Mo_of 0 = .ok (.aload_n 0, 1) := by decide +kernel
theorem d_Mo_of_1 : decode b_Mo_of 1 = .ok (.iload_n 1, 1) := by decide +kernel
theorem d_Mo_of_2 : decode b_Mo_of 2 = .ok (.invokevirtual 121, 3) := by decide +kernel
theorem d_Mo_of_5 : decode b_Mo_of 5 = .ok (.ifCond .eq 22, 3) := by decide +kernel
theorem d_Mo_of_8 : decode b_Mo_of 8 = .ok (.iload_n 2, 1) := by decide +kernel
theorem d_Mo_of_9 : decode b_Mo_of 9 = .ok (.iconst 0, 1) := by decide +kernel
theorem d_Mo_of_10 : decode b_Mo_of 10 = .ok (.bipush 9, 2) := by decide +kernel
theorem d_Mo_of_12 : decode b_Mo_of 12 = .ok (.invokestatic 70, 3) := by decide +kernel
theorem d_Mo_of_15 : decode b_Mo_of 15 = .ok (.ifCond .eq 12, 3) := by decide +kernel
theorem d_Mo_of_18 : decode b_Mo_of 18 = .ok (.aload_n 0, 1) := by decide +kernel
theorem d_Mo_of_19 : decode b_Mo_of 19 = .ok (.iload_n 1, 1) := by decide +kernel
theorem d_Mo_of_20 : decode b_Mo_of 20 = .ok (.iload_n 2, 1) := by decide +kernel
theorem d_Mo_of_21 : decode b_Mo_of 21 = .ok (.invokevirtual 124, 3) := by decide +kernel
theorem d_Mo_of_24 : decode b_Mo_of 24 = .ok (.goto 9, 3) := by decide +kernel
theorem d_Mo_of_27 : decode b_Mo_of 27 = .ok (.aload_n 0, 1) := by decide +kernel
theorem d_Mo_of_28 : decode b_Mo_of 28 = .ok (.ldc 60, 2) := by decide +kernel
theorem d_Mo_of_30 : decode b_Mo_of 30 = .ok (.invokevirtual 66, 3) := by decide +kernel
theorem d_Mo_of_33 : decode b_Mo_of 33 = .ok (.ireturn, 1) := by decide +kernel
theorem d_Mo_isField_0 : decode b_Mo_isField 0 = .ok (.iload_n 0, 1) := by decide +kernel
theorem d_Mo_isField_1 : decode b_Mo_isField 1 = .ok (.tableswitch 78 0 5 #[39, 44, 51, 56, 61, 69], 39) := by decide +kernel
theorem d_Mo_isField_40 : decode b_Mo_isField 40 = .ok (.iload_n 1, 1) := by decide +kernel
theorem d_Mo_isField_41 : decode b_Mo_isField 41 = .ok (.invokestatic 94, 3) := by decide +kernel
theorem d_Mo_isField_44 : decode b_Mo_isField 44 = .ok (.ireturn, 1) := by decide +kernel
theorem d_Mo_isField_45 : decode b_Mo_isField 45 = .ok (.iload_n 1, 1) := by decide +kernel
theorem d_Mo_isField_46 : decode b_Mo_isField 46 = .ok (.iconst 0, 1) := by decide +kernel
theorem d_Mo_isField_47 : decode b_Mo_isField 47 = .ok (.iconst 1, 1) := by decide +kernel
theorem d_Mo_isField_48 : decode b_Mo_isField 48 = .ok (.invokestatic 70, 3) := by decide +kernel
theorem d_Mo_isField_51 : decode b_Mo_isField 51 = .ok (.ireturn, 1) := by decide +kernel
theorem d_Mo_isField_52 : decode b_Mo_isField 52 = .ok (.iload_n 1, 1) := by decide +kernel
theorem d_Mo_isField_53 : decode b_Mo_isField 53 = .ok (.invokestatic 85, 3) := by decide +kernel
theorem d_Mo_isField_56 : decode b_Mo_isField 56 = .ok (.ireturn, 1) := by decide +kernel
theorem d_Mo_isField_57 : decode b_Mo_isField 57 = .ok (.iload_n 1, 1) := by decide +kernel
theorem d_Mo_isField_58 : decode b_Mo_isField 58 = .ok (.invokestatic 74, 3) := by decide +kernel
theorem d_Mo_isField_61 : decode b_Mo_isField 61 = .ok (.ireturn, 1) := by decide +kernel
theorem d_Mo_isField_62 : decode b_Mo_isField 62 = .ok (.iload_n 1, 1) := by decide +kernel
theorem d_Mo_isField_63 : decode b_Mo_isField 63 = .ok (.iconst 0, 1) := by decide +kernel
theorem d_Mo_isField_64 : decode b_Mo_isField 64 = .ok (.bipush 9, 2) := by decide +kernel
theorem d_Mo_isField_66 : decode b_Mo_isField 66 = .ok (.invokestatic 70, 3) := by decide +kernel
theorem d_Mo_isField_69 : decode b_Mo_isField 69 = .ok (.ireturn, 1) := by decide +kernel
theorem d_Mo_isField_70 : decode b_Mo_isField 70 = .ok (.iload_n 1, 1) := by decide +kernel
theorem d_Mo_isField_71 : decode b_Mo_isField 71 = .ok (.iconst 0, 1) := by decide +kernel
theorem d_Mo_isField_72 : decode b_Mo_isField 72 = .ok (.sipush 9999, 3) := by decide +kernel
theorem d_Mo_isField_75 : decode b_Mo_isField 75 = .ok (.invokestatic 70, 3) := by decide +kernel
theorem d_Mo_isField_78 : decode b_Mo_isField 78 = .ok (.ireturn, 1) := by decide +kernel
theorem d_Mo_isField_79 : decode b_Mo_isField 79 = .ok (.iconst 0, 1) := by decide +kernel
theorem d_Mo_isField_80 : decode b_Mo_isField 80 = .ok (.ireturn, 1) := by decide +kernel
theorem d_Mo_change_0 : decode b_Mo_change 0 = .ok (.aload_n 0, 1) := by decide +kernel
theorem d_Mo_change_1 : decode b_Mo_change 1 = .ok (.iload_n 1, 1) := by decide +kernel
theorem d_Mo_change_2 : decode b_Mo_change 2 = .ok (.invokevirtual 121, 3) := by decide +kernel
theorem d_Mo_change_5 : decode b_Mo_change 5 = .ok (.ifCond .eq 24, 3) := by decide +kernel
theorem d_Mo_change_8 : decode b_Mo_change 8 = .ok (.iload_n 2, 1) := by decide +kernel
theorem d_Mo_change_9 : decode b_Mo_change 9 = .ok (.iload_n 3, 1) := by decide +kernel
theorem d_Mo_change_10 : decode b_Mo_change 10 = .ok (.invokestatic 127, 3) := by decide +kernel
theorem d_Mo_change_13 : decode b_Mo_change 13 = .ok (.ifCond .eq 16, 3) := by decide +kernel
theorem d_Mo_change_16 : decode b_Mo_change 16 = .ok (.aload_n 0, 1) := by decide +kernel
theorem d_Mo_change_17 : decode b_Mo_change 17 = .ok (.iload_n 1, 1) := by decide +kernel
theorem d_Mo_change_18 : decode b_Mo_change 18 = .ok (.iload_n 2, 1) := by decide +kernel
theorem d_Mo_change_19 : decode b_Mo_change 19 = .ok (.invokestatic 88, 3) := by decide +kernel
theorem d_Mo_change_22 : decode b_Mo_change 22 = .ok (.iload_n 3, 1) := by decide +kernel
theorem d_Mo_change_23 : decode b_Mo_change 23 = .ok (.invokevirtual 78, 3) := by decide +kernel
theorem d_Mo_change_26 : decode b_Mo_change 26 = .ok (.goto 9, 3) := by decide +kernel
theorem d_Mo_change_29 : decode b_Mo_change 29 = .ok (.aload_n 0, 1) := by decide +kernel
theorem d_Mo_change_30 : decode b_Mo_change 30 = .ok (.ldc 60, 2) := by decide +kernel
theorem d_Mo_change_32 : decode b_Mo_change 32 = .ok (.invokevirtual 66, 3) := by decide +kernel
theorem d_Mo_change_35 : decode b_Mo_change 35 = .ok (.ireturn, 1) := by decide +kernel
theorem d_Mo_who_0 : decode b_Mo_who 0 = .ok (.iload_n 1, 1) := by decide +kernel
theorem d_Mo_who_1 : decode b_Mo_who 1 = .ok (.invokestatic 85, 3) := by decide +kernel
theorem d_Mo_who_4 : decode b_Mo_who 4 = .ok (.ifCond .ne 10, 3) := by decide +kernel
theorem d_Mo_who_7 : decode b_Mo_who 7 = .ok (.aload_n 0, 1) := by decide +kernel
theorem d_Mo_who_8 : decode b_Mo_who 8 = .ok (.ldc 60, 2) := by decide +kernel
theorem d_Mo_who_10 : decode b_Mo_who 10 = .ok (.invokevirtual 66, 3) := by decide +kernel
theorem d_Mo_who_13 : decode b_Mo_who 13 = .ok (.ireturn, 1) := by decide +kernel
theorem d_Mo_who_14 : decode b_Mo_who 14 = .ok (.iconst 0, 1) := by decide +kernel
theorem d_Mo_who_15 : decode b_Mo_who 15 = .ok (.istore_n 2, 1) := by decide +kernel
theorem d_Mo_who_16 : decode b_Mo_who 16 = .ok (.iconst 0, 1) := by decide +kernel
theorem d_Mo_who_17 : decode b_Mo_who 17 = .ok (.istore_n 3, 1) := by decide +kernel
theorem d_Mo_who_18 : decode b_Mo_who 18 = .ok (.iload_n 3, 1) := by decide +kernel
theorem d_Mo_who_19 : decode b_Mo_who 19 = .ok (.aload_n 0, 1) := by decide +kernel
theorem d_Mo_who_20 : decode b_Mo_who 20 = .ok (.getfield 9, 3) := by decide +kernel
theorem d_Mo_who_23 : decode b_Mo_who 23 = .ok (.iconst 1, 1) := by decide +kernel
theorem d_Mo_who_24 : decode b_Mo_who 24 = .ok (.iaload, 1) := by decide +kernel
theorem d_Mo_who_25 : decode b_Mo_who 25 = .ok (.if_icmp .ge 29, 3) := by decide +kernel
theorem d_Mo_who_28 : decode b_Mo_who 28 = .ok (.iload_n 2, 1) := by decide +kernel
theorem d_Mo_who_29 : decode b_Mo_who 29 = .ok (.aload_n 0, 1) := by decide +kernel
theorem d_Mo_who_30 : decode b_Mo_who 30 = .ok (.iload_n 3, 1) := by decide +kernel
theorem d_Mo_who_31 : decode b_Mo_who 31 = .ok (.iconst 2, 1) := by decide +kernel
theorem d_Mo_who_32 : decode b_Mo_who 32 = .ok (.invokevirtual 101, 3) := by decide +kernel
theorem d_Mo_who_35 : decode b_Mo_who 35 = .ok (.iload_n 1, 1) := by decide +kernel
theorem d_Mo_who_36 : decode b_Mo_who 36 = .ok (.if_icmp .ne 9, 3) := by decide +kernel
theorem d_Mo_who_39 : decode b_Mo_who 39 = .ok (.iconst 1, 1) := by decide +kernel
theorem d_Mo_who_40 : decode b_Mo_who 40 = .ok (.iload_n 3, 1) := by decide +kernel
theorem d_Mo_who_41 : decode b_Mo_who 41 = .ok (.ishl, 1) := by decide +kernel
theorem d_Mo_who_42 : decode b_Mo_who 42 = .ok (.goto 4, 3) := by decide +kernel
theorem d_Mo_who_45 : decode b_Mo_who 45 = .ok (.iconst 0, 1) := by decide +kernel
theorem d_Mo_who_46 : decode b_Mo_who 46 = .ok (.ior, 1) := by decide +kernel
theorem d_Mo_who_47 : decode b_Mo_who 47 = .ok (.istore_n 2, 1) := by decide +kernel
theorem d_Mo_who_48 : decode b_Mo_who 48 = .ok (.iinc 3 1, 3) := by decide +kernel
theorem d_Mo_who_51 : decode b_Mo_who 51 = .ok (.goto (-33), 3) := by decide +kernel
theorem d_Mo_who_54 : decode b_Mo_who 54 = .ok (.iload_n 2, 1) := by decide +kernel
theorem d_Mo_who_55 : decode b_Mo_who 55 = .ok (.ireturn, 1) := by decide +kernel
theorem d_Mo_wouldMeet_0 : decode b_Mo_wouldMeet 0 = .ok (.aload_n 0, 1) := by decide +kernel
theorem d_Mo_wouldMeet_1 : decode b_Mo_wouldMeet 1 = .ok (.iload_n 1, 1) := by decide +kernel
theorem d_Mo_wouldMeet_2 : decode b_Mo_wouldMeet 2 = .ok (.iconst 2, 1) := by decide +kernel
theorem d_Mo_wouldMeet_3 : decode b_Mo_wouldMeet 3 = .ok (.invokevirtual 101, 3) := by decide +kernel
theorem d_Mo_wouldMeet_6 : decode b_Mo_wouldMeet 6 = .ok (.istore_n 3, 1) := by decide +kernel
theorem d_Mo_wouldMeet_7 : decode b_Mo_wouldMeet 7 = .ok (.aload_n 0, 1) := by decide +kernel
theorem d_Mo_wouldMeet_8 : decode b_Mo_wouldMeet 8 = .ok (.iload_n 2, 1) := by decide +kernel
theorem d_Mo_wouldMeet_9 : decode b_Mo_wouldMeet 9 = .ok (.iconst 2, 1) := by decide +kernel
theorem d_Mo_wouldMeet_10 : decode b_Mo_wouldMeet 10 = .ok (.invokevirtual 101, 3) := by decide +kernel
theorem d_Mo_wouldMeet_13 : decode b_Mo_wouldMeet 13 = .ok (.istore 4, 2) := by decide +kernel
theorem d_Mo_wouldMeet_15 : decode b_Mo_wouldMeet 15 = .ok (.iload_n 3, 1) := by decide +kernel
theorem d_Mo_wouldMeet_16 : decode b_Mo_wouldMeet 16 = .ok (.iload 4, 2) := by decide +kernel
theorem d_Mo_wouldMeet_18 : decode b_Mo_wouldMeet 18 = .ok (.if_icmp .eq 29, 3) := by decide +kernel
theorem d_Mo_wouldMeet_21 : decode b_Mo_wouldMeet 21 = .ok (.iload_n 3, 1) := by decide +kernel
theorem d_Mo_wouldMeet_22 : decode b_Mo_wouldMeet 22 = .ok (.bipush 7, 2) := by decide +kernel
theorem d_Mo_wouldMeet_24 : decode b_Mo_wouldMeet 24 = .ok (.if_icmp .ne 10, 3) := by decide +kernel
theorem d_Mo_wouldMeet_27 : decode b_Mo_wouldMeet 27 = .ok (.iload 4, 2) := by decide +kernel
theorem d_Mo_wouldMeet_29 : decode b_Mo_wouldMeet 29 = .ok (.bipush 8, 2) := by decide +kernel
theorem d_Mo_wouldMeet_31 : decode b_Mo_wouldMeet 31 = .ok (.if_icmp .eq 16, 3) := by decide +kernel
theorem d_Mo_wouldMeet_34 : decode b_Mo_wouldMeet 34 = .ok (.iload_n 3, 1) := by decide +kernel
theorem d_Mo_wouldMeet_35 : decode b_Mo_wouldMeet 35 = .ok (.bipush 8, 2) := by decide +kernel
theorem d_Mo_wouldMeet_37 : decode b_Mo_wouldMeet 37 = .ok (.if_icmp .ne 14, 3) := by decide +kernel
theorem d_Mo_wouldMeet_40 : decode b_Mo_wouldMeet 40 = .ok (.iload 4, 2) := by decide +kernel
theorem d_Mo_wouldMeet_42 : decode b_Mo_wouldMeet 42 = .ok (.bipush 7, 2) := by decide +kernel
theorem d_Mo_wouldMeet_44 : decode b_Mo_wouldMeet 44 = .ok (.if_icmp .ne 7, 3) := by decide +kernel
theorem d_Mo_wouldMeet_47 : decode b_Mo_wouldMeet 47 = .ok (.iconst 1, 1) := by decide +kernel
theorem d_Mo_wouldMeet_48 : decode b_Mo_wouldMeet 48 = .ok (.goto 4, 3) := by decide +kernel
theorem d_Mo_wouldMeet_51 : decode b_Mo_wouldMeet 51 = .ok (.iconst 0, 1) := by decide +kernel
theorem d_Mo_wouldMeet_52 : decode b_Mo_wouldMeet 52 = .ok (.istore 5, 2) := by decide +kernel
theorem d_Mo_wouldMeet_54 : decode b_Mo_wouldMeet 54 = .ok (.iload 5, 2) := by decide +kernel
theorem d_Mo_wouldMeet_56 : decode b_Mo_wouldMeet 56 = .ok (.ifCond .eq 22, 3) := by decide +kernel
theorem d_Mo_wouldMeet_59 : decode b_Mo_wouldMeet 59 = .ok (.aload_n 0, 1) := by decide +kernel
theorem d_Mo_wouldMeet_60 : decode b_Mo_wouldMeet 60 = .ok (.iload_n 1, 1) := by decide +kernel
theorem d_Mo_wouldMeet_61 : decode b_Mo_wouldMeet 61 = .ok (.iconst 1, 1) := by decide +kernel
theorem d_Mo_wouldMeet_62 : decode b_Mo_wouldMeet 62 = .ok (.invokevirtual 101, 3) := by decide +kernel
theorem d_Mo_wouldMeet_65 : decode b_Mo_wouldMeet 65 = .ok (.aload_n 0, 1) := by decide +kernel
theorem d_Mo_wouldMeet_66 : decode b_Mo_wouldMeet 66 = .ok (.iload_n 2, 1) := by decide +kernel
theorem d_Mo_wouldMeet_67 : decode b_Mo_wouldMeet 67 = .ok (.iconst 1, 1) := by decide +kernel
theorem d_Mo_wouldMeet_68 : decode b_Mo_wouldMeet 68 = .ok (.invokevirtual 101, 3) := by decide +kernel
theorem d_Mo_wouldMeet_71 : decode b_Mo_wouldMeet 71 = .ok (.if_icmp .eq 7, 3) := by decide +kernel
theorem d_Mo_wouldMeet_74 : decode b_Mo_wouldMeet 74 = .ok (.iconst 1, 1) := by decide +kernel
theorem d_Mo_wouldMeet_75 : decode b_Mo_wouldMeet 75 = .ok (.goto 4, 3) := by decide +kernel
theorem d_Mo_wouldMeet_78 : decode b_Mo_wouldMeet 78 = .ok (.iconst 0, 1) := by decide +kernel
theorem d_Mo_wouldMeet_79 : decode b_Mo_wouldMeet 79 = .ok (.ireturn, 1) := by decide +kernel
theorem d_Mo_two_0 : decode b_Mo_two 0 = .ok (.aload_n 0, 1) := by decide +kernel
theorem d_Mo_two_1 : decode b_Mo_two 1 = .ok (.iload_n 1, 1) := by decide +kernel
theorem d_Mo_two_2 : decode b_Mo_two 2 = .ok (.invokevirtual 121, 3) := by decide +kernel
theorem d_Mo_two_5 : decode b_Mo_two 5 = .ok (.ifCond .eq 33, 3) := by decide +kernel
theorem d_Mo_two_8 : decode b_Mo_two 8 = .ok (.aload_n 0, 1) := by decide +kernel
theorem d_Mo_two_9 : decode b_Mo_two 9 = .ok (.iload_n 2, 1) := by decide +kernel
theorem d_Mo_two_10 : decode b_Mo_two 10 = .ok (.invokevirtual 121, 3) := by decide +kernel
theorem d_Mo_two_13 : decode b_Mo_two 13 = .ok (.ifCond .eq 25, 3) := by decide +kernel
theorem d_Mo_two_16 : decode b_Mo_two 16 = .ok (.iload_n 1, 1) := by decide +kernel
theorem d_Mo_two_17 : decode b_Mo_two 17 = .ok (.iload_n 2, 1) := by decide +kernel
theorem d_Mo_two_18 : decode b_Mo_two 18 = .ok (.if_icmp .eq 20, 3) := by decide +kernel
theorem d_Mo_two_21 : decode b_Mo_two 21 = .ok (.aload_n 0, 1) := by decide +kernel
theorem d_Mo_two_22 : decode b_Mo_two 22 = .ok (.iload_n 1, 1) := by decide +kernel
theorem d_Mo_two_23 : decode b_Mo_two 23 = .ok (.iload_n 2, 1) := by decide +kernel
theorem d_Mo_two_24 : decode b_Mo_two 24 = .ok (.invokevirtual 131, 3) := by decide +kernel
theorem d_Mo_two_27 : decode b_Mo_two 27 = .ok (.ifCond .eq 7, 3) := by decide +kernel
theorem d_Mo_two_30 : decode b_Mo_two 30 = .ok (.iconst 1, 1) := by decide +kernel
theorem d_Mo_two_31 : decode b_Mo_two 31 = .ok (.goto 13, 3) := by decide +kernel
theorem d_Mo_two_34 : decode b_Mo_two 34 = .ok (.iconst 0, 1) := by decide +kernel
theorem d_Mo_two_35 : decode b_Mo_two 35 = .ok (.goto 9, 3) := by decide +kernel
theorem d_Mo_two_38 : decode b_Mo_two 38 = .ok (.aload_n 0, 1) := by decide +kernel
theorem d_Mo_two_39 : decode b_Mo_two 39 = .ok (.ldc 60, 2) := by decide +kernel
theorem d_Mo_two_41 : decode b_Mo_two 41 = .ok (.invokevirtual 66, 3) := by decide +kernel
theorem d_Mo_two_44 : decode b_Mo_two 44 = .ok (.ireturn, 1) := by decide +kernel
theorem d_Mo_more_0 : decode b_Mo_more 0 = .ok (.aload_n 0, 1) := by decide +kernel
theorem d_Mo_more_1 : decode b_Mo_more 1 = .ok (.getfield 9, 3) := by decide +kernel
theorem d_Mo_more_4 : decode b_Mo_more 4 = .ok (.iload_n 1, 1) := by decide +kernel
theorem d_Mo_more_5 : decode b_Mo_more 5 = .ok (.iload_n 3, 1) := by decide +kernel
theorem d_Mo_more_6 : decode b_Mo_more 6 = .ok (.aload_n 0, 1) := by decide +kernel
theorem d_Mo_more_7 : decode b_Mo_more 7 = .ok (.getfield 9, 3) := by decide +kernel
theorem d_Mo_more_10 : decode b_Mo_more 10 = .ok (.iload_n 1, 1) := by decide +kernel
theorem d_Mo_more_11 : decode b_Mo_more 11 = .ok (.iaload, 1) := by decide +kernel
theorem d_Mo_more_12 : decode b_Mo_more 12 = .ok (.iload_n 2, 1) := by decide +kernel
theorem d_Mo_more_13 : decode b_Mo_more 13 = .ok (.iadd, 1) := by decide +kernel
theorem d_Mo_more_14 : decode b_Mo_more 14 = .ok (.invokestatic 134, 3) := by decide +kernel
theorem d_Mo_more_17 : decode b_Mo_more 17 = .ok (.iastore, 1) := by decide +kernel
theorem d_Mo_more_18 : decode b_Mo_more 18 = .ok (.return_, 1) := by decide +kernel
theorem d_Mo_towards_0 : decode b_Mo_towards 0 = .ok (.iload_n 1, 1) := by decide +kernel
theorem d_Mo_towards_1 : decode b_Mo_towards 1 = .ok (.iload_n 0, 1) := by decide +kernel
theorem d_Mo_towards_2 : decode b_Mo_towards 2 = .ok (.if_icmp .le 13, 3) := by decide +kernel
theorem d_Mo_towards_5 : decode b_Mo_towards 5 = .ok (.iload_n 1, 1) := by decide +kernel
theorem d_Mo_towards_6 : decode b_Mo_towards 6 = .ok (.iload_n 0, 1) := by decide +kernel
theorem d_Mo_towards_7 : decode b_Mo_towards 7 = .ok (.iload_n 2, 1) := by decide +kernel
theorem d_Mo_towards_8 : decode b_Mo_towards 8 = .ok (.iadd, 1) := by decide +kernel
theorem d_Mo_towards_9 : decode b_Mo_towards 9 = .ok (.invokestatic 134, 3) := by decide +kernel
theorem d_Mo_towards_12 : decode b_Mo_towards 12 = .ok (.goto 10, 3) := by decide +kernel
theorem d_Mo_towards_15 : decode b_Mo_towards 15 = .ok (.iload_n 1, 1) := by decide +kernel
theorem d_Mo_towards_16 : decode b_Mo_towards 16 = .ok (.iload_n 0, 1) := by decide +kernel
theorem d_Mo_towards_17 : decode b_Mo_towards 17 = .ok (.iload_n 2, 1) := by decide +kernel
theorem d_Mo_towards_18 : decode b_Mo_towards 18 = .ok (.isub, 1) := by decide +kernel
theorem d_Mo_towards_19 : decode b_Mo_towards 19 = .ok (.invokestatic 104, 3) := by decide +kernel
theorem d_Mo_towards_22 : decode b_Mo_towards 22 = .ok (.ireturn, 1) := by decide +kernel
theorem d_Mo_walks_0 : decode b_Mo_walks 0 = .ok (.aload_n 0, 1) := by decide +kernel
theorem d_Mo_walks_1 : decode b_Mo_walks 1 = .ok (.iload_n 1, 1) := by decide +kernel
theorem d_Mo_walks_2 : decode b_Mo_walks 2 = .ok (.iconst 2, 1) := by decide +kernel
theorem d_Mo_walks_3 : decode b_Mo_walks 3 = .ok (.invokevirtual 101, 3) := by decide +kernel
theorem d_Mo_walks_6 : decode b_Mo_walks 6 = .ok (.istore_n 3, 1) := by decide +kernel
theorem d_Mo_walks_7 : decode b_Mo_walks 7 = .ok (.aload_n 0, 1) := by decide +kernel
theorem d_Mo_walks_8 : decode b_Mo_walks 8 = .ok (.iload_n 1, 1) := by decide +kernel
theorem d_Mo_walks_9 : decode b_Mo_walks 9 = .ok (.iconst 1, 1) := by decide +kernel
theorem d_Mo_walks_10 : decode b_Mo_walks 10 = .ok (.invokevirtual 101, 3) := by decide +kernel
theorem d_Mo_walks_13 : decode b_Mo_walks 13 = .ok (.invokestatic 91, 3) := by decide +kernel
theorem d_Mo_walks_16 : decode b_Mo_walks 16 = .ok (.istore 4, 2) := by decide +kernel
theorem d_Mo_walks_18 : decode b_Mo_walks 18 = .ok (.aload_n 0, 1) := by decide +kernel
theorem d_Mo_walks_19 : decode b_Mo_walks 19 = .ok (.iload_n 1, 1) := by decide +kernel
theorem d_Mo_walks_20 : decode b_Mo_walks 20 = .ok (.iconst 3, 1) := by decide +kernel
theorem d_Mo_walks_21 : decode b_Mo_walks 21 = .ok (.invokevirtual 101, 3) := by decide +kernel
theorem d_Mo_walks_24 : decode b_Mo_walks 24 = .ok (.ifCond .le 38, 3) := by decide +kernel
theorem d_Mo_walks_27 : decode b_Mo_walks 27 = .ok (.aload_n 0, 1) := by decide +kernel
theorem d_Mo_walks_28 : decode b_Mo_walks 28 = .ok (.iload_n 1, 1) := by decide +kernel
theorem d_Mo_walks_29 : decode b_Mo_walks 29 = .ok (.invokevirtual 112, 3) := by decide +kernel
theorem d_Mo_walks_32 : decode b_Mo_walks 32 = .ok (.ifCond .eq 7, 3) := by decide +kernel
theorem d_Mo_walks_35 : decode b_Mo_walks 35 = .ok (.iload_n 2, 1) := by decide +kernel
theorem d_Mo_walks_36 : decode b_Mo_walks 36 = .ok (.goto 24, 3) := by decide +kernel
theorem d_Mo_walks_39 : decode b_Mo_walks 39 = .ok (.iload_n 3, 1) := by decide +kernel
theorem d_Mo_walks_40 : decode b_Mo_walks 40 = .ok (.bipush 7, 2) := by decide +kernel
theorem d_Mo_walks_42 : decode b_Mo_walks 42 = .ok (.if_icmp .gt 12, 3) := by decide +kernel
theorem d_Mo_walks_45 : decode b_Mo_walks 45 = .ok (.bipush 7, 2) := by decide +kernel
theorem d_Mo_walks_47 : decode b_Mo_walks 47 = .ok (.iload_n 2, 1) := by decide +kernel
theorem d_Mo_walks_48 : decode b_Mo_walks 48 = .ok (.invokestatic 134, 3) := by decide +kernel
theorem d_Mo_walks_51 : decode b_Mo_walks 51 = .ok (.goto 9, 3) := by decide +kernel
theorem d_Mo_walks_54 : decode b_Mo_walks 54 = .ok (.bipush 8, 2) := by decide +kernel
theorem d_Mo_walks_56 : decode b_Mo_walks 56 = .ok (.iload_n 2, 1) := by decide +kernel
theorem d_Mo_walks_57 : decode b_Mo_walks 57 = .ok (.invokestatic 104, 3) := by decide +kernel
theorem d_Mo_walks_60 : decode b_Mo_walks 60 = .ok (.istore 4, 2) := by decide +kernel
theorem d_Mo_walks_62 : decode b_Mo_walks 62 = .ok (.aload_n 0, 1) := by decide +kernel
theorem d_Mo_walks_63 : decode b_Mo_walks 63 = .ok (.getfield 9, 3) := by decide +kernel
theorem d_Mo_walks_66 : decode b_Mo_walks 66 = .ok (.iload_n 1, 1) := by decide +kernel
theorem d_Mo_walks_67 : decode b_Mo_walks 67 = .ok (.iconst 2, 1) := by decide +kernel
theorem d_Mo_walks_68 : decode b_Mo_walks 68 = .ok (.invokestatic 88, 3) := by decide +kernel
theorem d_Mo_walks_71 : decode b_Mo_walks 71 = .ok (.iload_n 3, 1) := by decide +kernel
theorem d_Mo_walks_72 : decode b_Mo_walks 72 = .ok (.iload 4, 2) := by decide +kernel
theorem d_Mo_walks_74 : decode b_Mo_walks 74 = .ok (.aload_n 0, 1) := by decide +kernel
theorem d_Mo_walks_75 : decode b_Mo_walks 75 = .ok (.iload_n 1, 1) := by decide +kernel
theorem d_Mo_walks_76 : decode b_Mo_walks 76 = .ok (.invokevirtual 109, 3) := by decide +kernel
theorem d_Mo_walks_79 : decode b_Mo_walks 79 = .ok (.invokestatic 137, 3) := by decide +kernel
theorem d_Mo_walks_82 : decode b_Mo_walks 82 = .ok (.iastore, 1) := by decide +kernel
theorem d_Mo_walks_83 : decode b_Mo_walks 83 = .ok (.return_, 1) := by decide +kernel
theorem d_Mo_meet_0 : decode b_Mo_meet 0 = .ok (.aload_n 0, 1) := by decide +kernel
theorem d_Mo_meet_1 : decode b_Mo_meet 1 = .ok (.iload_n 1, 1) := by decide +kernel
theorem d_Mo_meet_2 : decode b_Mo_meet 2 = .ok (.iconst 5, 1) := by decide +kernel
theorem d_Mo_meet_3 : decode b_Mo_meet 3 = .ok (.invokestatic 88, 3) := by decide +kernel
theorem d_Mo_meet_6 : decode b_Mo_meet 6 = .ok (.iconst 1, 1) := by decide +kernel
theorem d_Mo_meet_7 : decode b_Mo_meet 7 = .ok (.sipush 9999, 3) := by decide +kernel
theorem d_Mo_meet_10 : decode b_Mo_meet 10 = .ok (.invokevirtual 141, 3) := by decide +kernel
theorem d_Mo_meet_13 : decode b_Mo_meet 13 = .ok (.aload_n 0, 1) := by decide +kernel
theorem d_Mo_meet_14 : decode b_Mo_meet 14 = .ok (.iload_n 2, 1) := by decide +kernel
theorem d_Mo_meet_15 : decode b_Mo_meet 15 = .ok (.iconst 5, 1) := by decide +kernel
theorem d_Mo_meet_16 : decode b_Mo_meet 16 = .ok (.invokestatic 88, 3) := by decide +kernel
theorem d_Mo_meet_19 : decode b_Mo_meet 19 = .ok (.iconst 1, 1) := by decide +kernel
theorem d_Mo_meet_20 : decode b_Mo_meet 20 = .ok (.sipush 9999, 3) := by decide +kernel
theorem d_Mo_meet_23 : decode b_Mo_meet 23 = .ok (.invokevirtual 141, 3) := by decide +kernel
theorem d_Mo_meet_26 : decode b_Mo_meet 26 = .ok (.aload_n 0, 1) := by decide +kernel
theorem d_Mo_meet_27 : decode b_Mo_meet 27 = .ok (.getfield 9, 3) := by decide +kernel
theorem d_Mo_meet_30 : decode b_Mo_meet 30 = .ok (.iconst 3, 1) := by decide +kernel
theorem d_Mo_meet_31 : decode b_Mo_meet 31 = .ok (.iconst 0, 1) := by decide +kernel
theorem d_Mo_meet_32 : decode b_Mo_meet 32 = .ok (.aload_n 0, 1) := by decide +kernel
theorem d_Mo_meet_33 : decode b_Mo_meet 33 = .ok (.getfield 9, 3) := by decide +kernel
theorem d_Mo_meet_36 : decode b_Mo_meet 36 = .ok (.iconst 3, 1) := by decide +kernel
theorem d_Mo_meet_37 : decode b_Mo_meet 37 = .ok (.iaload, 1) := by decide +kernel
theorem d_Mo_meet_38 : decode b_Mo_meet 38 = .ok (.aload_n 0, 1) := by decide +kernel
theorem d_Mo_meet_39 : decode b_Mo_meet 39 = .ok (.iload_n 1, 1) := by decide +kernel
theorem d_Mo_meet_40 : decode b_Mo_meet 40 = .ok (.invokevirtual 115, 3) := by decide +kernel
theorem d_Mo_meet_43 : decode b_Mo_meet 43 = .ok (.isub, 1) := by decide +kernel
theorem d_Mo_meet_44 : decode b_Mo_meet 44 = .ok (.aload_n 0, 1) := by decide +kernel
theorem d_Mo_meet_45 : decode b_Mo_meet 45 = .ok (.iload_n 2, 1) := by decide +kernel
theorem d_Mo_meet_46 : decode b_Mo_meet 46 = .ok (.invokevirtual 115, 3) := by decide +kernel
theorem d_Mo_meet_49 : decode b_Mo_meet 49 = .ok (.isub, 1) := by decide +kernel
theorem d_Mo_meet_50 : decode b_Mo_meet 50 = .ok (.invokestatic 104, 3) := by decide +kernel
theorem d_Mo_meet_53 : decode b_Mo_meet 53 = .ok (.iastore, 1) := by decide +kernel
theorem d_Mo_meet_54 : decode b_Mo_meet 54 = .ok (.return_, 1) := by decide +kernel
theorem d_Mo_day_0 : decode b_Mo_day 0 = .ok (.aload_n 0, 1) := by decide +kernel
theorem d_Mo_day_1 : decode b_Mo_day 1 = .ok (.getfield 9, 3) := by decide +kernel
theorem d_Mo_day_4 : decode b_Mo_day 4 = .ok (.aload_n 0, 1) := by decide +kernel
theorem d_Mo_day_5 : decode b_Mo_day 5 = .ok (.invokevirtual 145, 3) := by decide +kernel
theorem d_Mo_day_8 : decode b_Mo_day 8 = .ok (.iaload, 1) := by decide +kernel
theorem d_Mo_day_9 : decode b_Mo_day 9 = .ok (.istore_n 1, 1) := by decide +kernel
theorem d_Mo_day_10 : decode b_Mo_day 10 = .ok (.iconst 0, 1) := by decide +kernel
theorem d_Mo_day_11 : decode b_Mo_day 11 = .ok (.istore_n 2, 1) := by decide +kernel
theorem d_Mo_day_12 : decode b_Mo_day 12 = .ok (.iload_n 2, 1) := by decide +kernel
theorem d_Mo_day_13 : decode b_Mo_day 13 = .ok (.aload_n 0, 1) := by decide +kernel
theorem d_Mo_day_14 : decode b_Mo_day 14 = .ok (.getfield 9, 3) := by decide +kernel
theorem d_Mo_day_17 : decode b_Mo_day 17 = .ok (.iconst 1, 1) := by decide +kernel
theorem d_Mo_day_18 : decode b_Mo_day 18 = .ok (.iaload, 1) := by decide +kernel
theorem d_Mo_day_19 : decode b_Mo_day 19 = .ok (.if_icmp .ge 15, 3) := by decide +kernel
theorem d_Mo_day_22 : decode b_Mo_day 22 = .ok (.aload_n 0, 1) := by decide +kernel
theorem d_Mo_day_23 : decode b_Mo_day 23 = .ok (.iload_n 2, 1) := by decide +kernel
theorem d_Mo_day_24 : decode b_Mo_day 24 = .ok (.iload_n 1, 1) := by decide +kernel
theorem d_Mo_day_25 : decode b_Mo_day 25 = .ok (.invokevirtual 149, 3) := by decide +kernel
theorem d_Mo_day_28 : decode b_Mo_day 28 = .ok (.iinc 2 1, 3) := by decide +kernel
theorem d_Mo_day_31 : decode b_Mo_day 31 = .ok (.goto (-19), 3) := by decide +kernel
theorem d_Mo_day_34 : decode b_Mo_day 34 = .ok (.iconst 0, 1) := by decide +kernel
theorem d_Mo_day_35 : decode b_Mo_day 35 = .ok (.istore_n 2, 1) := by decide +kernel
theorem d_Mo_day_36 : decode b_Mo_day 36 = .ok (.iload_n 2, 1) := by decide +kernel
theorem d_Mo_day_37 : decode b_Mo_day 37 = .ok (.aload_n 0, 1) := by decide +kernel
theorem d_Mo_day_38 : decode b_Mo_day 38 = .ok (.getfield 9, 3) := by decide +kernel
theorem d_Mo_day_41 : decode b_Mo_day 41 = .ok (.iconst 1, 1) := by decide +kernel
theorem d_Mo_day_42 : decode b_Mo_day 42 = .ok (.iaload, 1) := by decide +kernel
theorem d_Mo_day_43 : decode b_Mo_day 43 = .ok (.if_icmp .ge 44, 3) := by decide +kernel
theorem d_Mo_day_46 : decode b_Mo_day 46 = .ok (.iload_n 2, 1) := by decide +kernel
theorem d_Mo_day_47 : decode b_Mo_day 47 = .ok (.iconst 1, 1) := by decide +kernel
theorem d_Mo_day_48 : decode b_Mo_day 48 = .ok (.iadd, 1) := by decide +kernel
theorem d_Mo_day_49 : decode b_Mo_day 49 = .ok (.istore_n 3, 1) := by decide +kernel
theorem d_Mo_day_50 : decode b_Mo_day 50 = .ok (.iload_n 3, 1) := by decide +kernel
theorem d_Mo_day_51 : decode b_Mo_day 51 = .ok (.aload_n 0, 1) := by decide +kernel
theorem d_Mo_day_52 : decode b_Mo_day 52 = .ok (.getfield 9, 3) := by decide +kernel
theorem d_Mo_day_55 : decode b_Mo_day 55 = .ok (.iconst 1, 1) := by decide +kernel
theorem d_Mo_day_56 : decode b_Mo_day 56 = .ok (.iaload, 1) := by decide +kernel
theorem d_Mo_day_57 : decode b_Mo_day 57 = .ok (.if_icmp .ge 24, 3) := by decide +kernel
theorem d_Mo_day_60 : decode b_Mo_day 60 = .ok (.aload_n 0, 1) := by decide +kernel
theorem d_Mo_day_61 : decode b_Mo_day 61 = .ok (.iload_n 2, 1) := by decide +kernel
theorem d_Mo_day_62 : decode b_Mo_day 62 = .ok (.iload_n 3, 1) := by decide +kernel
theorem d_Mo_day_63 : decode b_Mo_day 63 = .ok (.invokevirtual 131, 3) := by decide +kernel
theorem d_Mo_day_66 : decode b_Mo_day 66 = .ok (.ifCond .eq 9, 3) := by decide +kernel
theorem d_Mo_day_69 : decode b_Mo_day 69 = .ok (.aload_n 0, 1) := by decide +kernel
theorem d_Mo_day_70 : decode b_Mo_day 70 = .ok (.iload_n 2, 1) := by decide +kernel
theorem d_Mo_day_71 : decode b_Mo_day 71 = .ok (.iload_n 3, 1) := by decide +kernel
theorem d_Mo_day_72 : decode b_Mo_day 72 = .ok (.invokevirtual 153, 3) := by decide +kernel
theorem d_Mo_day_75 : decode b_Mo_day 75 = .ok (.iinc 3 1, 3) := by decide +kernel
theorem d_Mo_day_78 : decode b_Mo_day 78 = .ok (.goto (-28), 3) := by decide +kernel
theorem d_Mo_day_81 : decode b_Mo_day 81 = .ok (.iinc 2 1, 3) := by decide +kernel
theorem d_Mo_day_84 : decode b_Mo_day 84 = .ok (.goto (-48), 3) := by decide +kernel
theorem d_Mo_day_87 : decode b_Mo_day 87 = .ok (.aload_n 0, 1) := by decide +kernel
theorem d_Mo_day_88 : decode b_Mo_day 88 = .ok (.getfield 9, 3) := by decide +kernel
theorem d_Mo_day_91 : decode b_Mo_day 91 = .ok (.iconst 3, 1) := by decide +kernel
theorem d_Mo_day_92 : decode b_Mo_day 92 = .ok (.iaload, 1) := by decide +kernel
theorem d_Mo_day_93 : decode b_Mo_day 93 = .ok (.ifCond .le 11, 3) := by decide +kernel
theorem d_Mo_day_96 : decode b_Mo_day 96 = .ok (.aload_n 0, 1) := by decide +kernel
theorem d_Mo_day_97 : decode b_Mo_day 97 = .ok (.iconst 3, 1) := by decide +kernel
theorem d_Mo_day_98 : decode b_Mo_day 98 = .ok (.iconst 5, 1) := by decide +kernel
theorem d_Mo_day_99 : decode b_Mo_day 99 = .ok (.bipush 99, 2) := by decide +kernel
theorem d_Mo_day_101 : decode b_Mo_day 101 = .ok (.invokevirtual 141, 3) := by decide +kernel
theorem d_Mo_day_104 : decode b_Mo_day 104 = .ok (.iconst 0, 1) := by decide +kernel
theorem d_Mo_day_105 : decode b_Mo_day 105 = .ok (.istore_n 2, 1) := by decide +kernel
theorem d_Mo_day_106 : decode b_Mo_day 106 = .ok (.iload_n 2, 1) := by decide +kernel
theorem d_Mo_day_107 : decode b_Mo_day 107 = .ok (.aload_n 0, 1) := by decide +kernel
theorem d_Mo_day_108 : decode b_Mo_day 108 = .ok (.getfield 9, 3) := by decide +kernel
theorem d_Mo_day_111 : decode b_Mo_day 111 = .ok (.iconst 1, 1) := by decide +kernel
theorem d_Mo_day_112 : decode b_Mo_day 112 = .ok (.iaload, 1) := by decide +kernel
theorem d_Mo_day_113 : decode b_Mo_day 113 = .ok (.if_icmp .ge 64, 3) := by decide +kernel
theorem d_Mo_day_116 : decode b_Mo_day 116 = .ok (.aload_n 0, 1) := by decide +kernel
theorem d_Mo_day_117 : decode b_Mo_day 117 = .ok (.iload_n 2, 1) := by decide +kernel
theorem d_Mo_day_118 : decode b_Mo_day 118 = .ok (.iconst 2, 1) := by decide +kernel
theorem d_Mo_day_119 : decode b_Mo_day 119 = .ok (.invokevirtual 101, 3) := by decide +kernel
theorem d_Mo_day_122 : decode b_Mo_day 122 = .ok (.aload_n 0, 1) := by decide +kernel
theorem d_Mo_day_123 : decode b_Mo_day 123 = .ok (.iload_n 2, 1) := by decide +kernel
theorem d_Mo_day_124 : decode b_Mo_day 124 = .ok (.iconst 1, 1) := by decide +kernel
theorem d_Mo_day_125 : decode b_Mo_day 125 = .ok (.invokevirtual 101, 3) := by decide +kernel
theorem d_Mo_day_128 : decode b_Mo_day 128 = .ok (.invokestatic 91, 3) := by decide +kernel
theorem d_Mo_day_131 : decode b_Mo_day 131 = .ok (.if_icmp .ne 14, 3) := by decide +kernel
theorem d_Mo_day_134 : decode b_Mo_day 134 = .ok (.aload_n 0, 1) := by decide +kernel
theorem d_Mo_day_135 : decode b_Mo_day 135 = .ok (.getfield 9, 3) := by decide +kernel
theorem d_Mo_day_138 : decode b_Mo_day 138 = .ok (.iload_n 2, 1) := by decide +kernel
theorem d_Mo_day_139 : decode b_Mo_day 139 = .ok (.iconst 4, 1) := by decide +kernel
theorem d_Mo_day_140 : decode b_Mo_day 140 = .ok (.invokestatic 88, 3) := by decide +kernel
theorem d_Mo_day_143 : decode b_Mo_day 143 = .ok (.iconst 0, 1) := by decide +kernel
theorem d_Mo_day_144 : decode b_Mo_day 144 = .ok (.iastore, 1) := by decide +kernel
theorem d_Mo_day_145 : decode b_Mo_day 145 = .ok (.aload_n 0, 1) := by decide +kernel
theorem d_Mo_day_146 : decode b_Mo_day 146 = .ok (.getfield 9, 3) := by decide +kernel
theorem d_Mo_day_149 : decode b_Mo_day 149 = .ok (.iload_n 2, 1) := by decide +kernel
theorem d_Mo_day_150 : decode b_Mo_day 150 = .ok (.iconst 3, 1) := by decide +kernel
theorem d_Mo_day_151 : decode b_Mo_day 151 = .ok (.invokestatic 88, 3) := by decide +kernel
theorem d_Mo_day_154 : decode b_Mo_day 154 = .ok (.iconst 0, 1) := by decide +kernel
theorem d_Mo_day_155 : decode b_Mo_day 155 = .ok (.aload_n 0, 1) := by decide +kernel
theorem d_Mo_day_156 : decode b_Mo_day 156 = .ok (.iload_n 2, 1) := by decide +kernel
theorem d_Mo_day_157 : decode b_Mo_day 157 = .ok (.iconst 3, 1) := by decide +kernel
theorem d_Mo_day_158 : decode b_Mo_day 158 = .ok (.invokevirtual 101, 3) := by decide +kernel
theorem d_Mo_day_161 : decode b_Mo_day 161 = .ok (.aload_n 0, 1) := by decide +kernel
theorem d_Mo_day_162 : decode b_Mo_day 162 = .ok (.iload_n 2, 1) := by decide +kernel
theorem d_Mo_day_163 : decode b_Mo_day 163 = .ok (.invokevirtual 118, 3) := by decide +kernel
theorem d_Mo_day_166 : decode b_Mo_day 166 = .ok (.isub, 1) := by decide +kernel
theorem d_Mo_day_167 : decode b_Mo_day 167 = .ok (.invokestatic 104, 3) := by decide +kernel
theorem d_Mo_day_170 : decode b_Mo_day 170 = .ok (.iastore, 1) := by decide +kernel
theorem d_Mo_day_171 : decode b_Mo_day 171 = .ok (.iinc 2 1, 3) := by decide +kernel
theorem d_Mo_day_174 : decode b_Mo_day 174 = .ok (.goto (-68), 3) := by decide +kernel
theorem d_Mo_day_177 : decode b_Mo_day 177 = .ok (.aload_n 0, 1) := by decide +kernel
theorem d_Mo_day_178 : decode b_Mo_day 178 = .ok (.iconst 0, 1) := by decide +kernel
theorem d_Mo_day_179 : decode b_Mo_day 179 = .ok (.iconst 1, 1) := by decide +kernel
theorem d_Mo_day_180 : decode b_Mo_day 180 = .ok (.ldc 156, 2) := by decide +kernel
theorem d_Mo_day_182 : decode b_Mo_day 182 = .ok (.invokevirtual 141, 3) := by decide +kernel
theorem d_Mo_day_185 : decode b_Mo_day 185 = .ok (.return_, 1) := by decide +kernel
theorem d_Mo_daysGo_0 : decode b_Mo_daysGo 0 = .ok (.iconst 0, 1) := by decide +kernel
theorem d_Mo_daysGo_1 : decode b_Mo_daysGo 1 = .ok (.istore_n 2, 1) := by decide +kernel
theorem d_Mo_daysGo_2 : decode b_Mo_daysGo 2 = .ok (.iload_n 2, 1) := by decide +kernel
theorem d_Mo_daysGo_3 : decode b_Mo_daysGo 3 = .ok (.iload_n 1, 1) := by decide +kernel
theorem d_Mo_daysGo_4 : decode b_Mo_daysGo 4 = .ok (.if_icmp .ge 13, 3) := by decide +kernel
theorem d_Mo_daysGo_7 : decode b_Mo_daysGo 7 = .ok (.aload_n 0, 1) := by decide +kernel
theorem d_Mo_daysGo_8 : decode b_Mo_daysGo 8 = .ok (.invokevirtual 157, 3) := by decide +kernel
theorem d_Mo_daysGo_11 : decode b_Mo_daysGo 11 = .ok (.iinc 2 1, 3) := by decide +kernel
theorem d_Mo_daysGo_14 : decode b_Mo_daysGo 14 = .ok (.goto (-12), 3) := by decide +kernel
theorem d_Mo_daysGo_17 : decode b_Mo_daysGo 17 = .ok (.return_, 1) := by decide +kernel
theorem d_Mo_go_0 : decode b_Mo_go 0 = .ok (.iload_n 1, 1) := by decide +kernel
theorem d_Mo_go_1 : decode b_Mo_go 1 = .ok (.iconst 1, 1) := by decide +kernel
theorem d_Mo_go_2 : decode b_Mo_go 2 = .ok (.bipush 60, 2) := by decide +kernel
theorem d_Mo_go_4 : decode b_Mo_go 4 = .ok (.invokestatic 70, 3) := by decide +kernel
theorem d_Mo_go_7 : decode b_Mo_go 7 = .ok (.ifCond .ne 10, 3) := by decide +kernel
theorem d_Mo_go_10 : decode b_Mo_go 10 = .ok (.aload_n 0, 1) := by decide +kernel
theorem d_Mo_go_11 : decode b_Mo_go 11 = .ok (.ldc 60, 2) := by decide +kernel
theorem d_Mo_go_13 : decode b_Mo_go 13 = .ok (.invokevirtual 66, 3) := by decide +kernel
theorem d_Mo_go_16 : decode b_Mo_go 16 = .ok (.ireturn, 1) := by decide +kernel
theorem d_Mo_go_17 : decode b_Mo_go 17 = .ok (.aload_n 0, 1) := by decide +kernel
theorem d_Mo_go_18 : decode b_Mo_go 18 = .ok (.getfield 9, 3) := by decide +kernel
theorem d_Mo_go_21 : decode b_Mo_go 21 = .ok (.iconst 0, 1) := by decide +kernel
theorem d_Mo_go_22 : decode b_Mo_go 22 = .ok (.iaload, 1) := by decide +kernel
theorem d_Mo_go_23 : decode b_Mo_go 23 = .ok (.iload_n 1, 1) := by decide +kernel
theorem d_Mo_go_24 : decode b_Mo_go 24 = .ok (.iadd, 1) := by decide +kernel
theorem d_Mo_go_25 : decode b_Mo_go 25 = .ok (.ldc 156, 2) := by decide +kernel
theorem d_Mo_go_27 : decode b_Mo_go 27 = .ok (.if_icmp .le 10, 3) := by decide +kernel
theorem d_Mo_go_30 : decode b_Mo_go 30 = .ok (.aload_n 0, 1) := by decide +kernel
theorem d_Mo_go_31 : decode b_Mo_go 31 = .ok (.ldc 160, 2) := by decide +kernel
theorem d_Mo_go_33 : decode b_Mo_go 33 = .ok (.invokevirtual 66, 3) := by decide +kernel
theorem d_Mo_go_36 : decode b_Mo_go 36 = .ok (.ireturn, 1) := by decide +kernel
theorem d_Mo_go_37 : decode b_Mo_go 37 = .ok (.aload_n 0, 1) := by decide +kernel
theorem d_Mo_go_38 : decode b_Mo_go 38 = .ok (.iload_n 1, 1) := by decide +kernel
theorem d_Mo_go_39 : decode b_Mo_go 39 = .ok (.invokevirtual 161, 3) := by decide +kernel
theorem d_Mo_go_42 : decode b_Mo_go 42 = .ok (.aload_n 0, 1) := by decide +kernel
theorem d_Mo_go_43 : decode b_Mo_go 43 = .ok (.getfield 9, 3) := by decide +kernel
theorem d_Mo_go_46 : decode b_Mo_go 46 = .ok (.iconst 3, 1) := by decide +kernel
theorem d_Mo_go_47 : decode b_Mo_go 47 = .ok (.iaload, 1) := by decide +kernel
theorem d_Mo_go_48 : decode b_Mo_go 48 = .ok (.ireturn, 1) := by decide +kernel
theorem d_Mo_metInAll_0 : decode b_Mo_metInAll 0 = .ok (.iconst 0, 1) := by decide +kernel
theorem d_Mo_metInAll_1 : decode b_Mo_metInAll 1 = .ok (.istore_n 1, 1) := by decide +kernel
theorem d_Mo_metInAll_2 : decode b_Mo_metInAll 2 = .ok (.iconst 0, 1) := by decide +kernel
theorem d_Mo_metInAll_3 : decode b_Mo_metInAll 3 = .ok (.istore_n 2, 1) := by decide +kernel
theorem d_Mo_metInAll_4 : decode b_Mo_metInAll 4 = .ok (.iload_n 2, 1) := by decide +kernel
theorem d_Mo_metInAll_5 : decode b_Mo_metInAll 5 = .ok (.aload_n 0, 1) := by decide +kernel
theorem d_Mo_metInAll_6 : decode b_Mo_metInAll 6 = .ok (.getfield 9, 3) := by decide +kernel
theorem d_Mo_metInAll_9 : decode b_Mo_metInAll 9 = .ok (.iconst 1, 1) := by decide +kernel
theorem d_Mo_metInAll_10 : decode b_Mo_metInAll 10 = .ok (.iaload, 1) := by decide +kernel
theorem d_Mo_metInAll_11 : decode b_Mo_metInAll 11 = .ok (.if_icmp .ge 18, 3) := by decide +kernel
theorem d_Mo_metInAll_14 : decode b_Mo_metInAll 14 = .ok (.iload_n 1, 1) := by decide +kernel
theorem d_Mo_metInAll_15 : decode b_Mo_metInAll 15 = .ok (.aload_n 0, 1) := by decide +kernel
theorem d_Mo_metInAll_16 : decode b_Mo_metInAll 16 = .ok (.iload_n 2, 1) := by decide +kernel
theorem d_Mo_metInAll_17 : decode b_Mo_metInAll 17 = .ok (.iconst 5, 1) := by decide +kernel
theorem d_Mo_metInAll_18 : decode b_Mo_metInAll 18 = .ok (.invokevirtual 101, 3) := by decide +kernel
theorem d_Mo_metInAll_21 : decode b_Mo_metInAll 21 = .ok (.iadd, 1) := by decide +kernel
theorem d_Mo_metInAll_22 : decode b_Mo_metInAll 22 = .ok (.istore_n 1, 1) := by decide +kernel
theorem d_Mo_metInAll_23 : decode b_Mo_metInAll 23 = .ok (.iinc 2 1, 3) := by decide +kernel
theorem d_Mo_metInAll_26 : decode b_Mo_metInAll 26 = .ok (.goto (-22), 3) := by decide +kernel
theorem d_Mo_metInAll_29 : decode b_Mo_metInAll 29 = .ok (.iload_n 1, 1) := by decide +kernel
theorem d_Mo_metInAll_30 : decode b_Mo_metInAll 30 = .ok (.ireturn, 1) := by decide +kernel
theorem d_Mo_strangers_0 : decode b_Mo_strangers 0 = .ok (.iconst 0, 1) := by decide +kernel
theorem d_Mo_strangers_1 : decode b_Mo_strangers 1 = .ok (.istore_n 1, 1) := by decide +kernel
theorem d_Mo_strangers_2 : decode b_Mo_strangers 2 = .ok (.iconst 0, 1) := by decide +kernel
theorem d_Mo_strangers_3 : decode b_Mo_strangers 3 = .ok (.istore_n 2, 1) := by decide +kernel
theorem d_Mo_strangers_4 : decode b_Mo_strangers 4 = .ok (.iload_n 2, 1) := by decide +kernel
theorem d_Mo_strangers_5 : decode b_Mo_strangers 5 = .ok (.aload_n 0, 1) := by decide +kernel
theorem d_Mo_strangers_6 : decode b_Mo_strangers 6 = .ok (.getfield 9, 3) := by decide +kernel
theorem d_Mo_strangers_9 : decode b_Mo_strangers 9 = .ok (.iconst 1, 1) := by decide +kernel
theorem d_Mo_strangers_10 : decode b_Mo_strangers 10 = .ok (.iaload, 1) := by decide +kernel
theorem d_Mo_strangers_11 : decode b_Mo_strangers 11 = .ok (.if_icmp .ge 46, 3) := by decide +kernel
theorem d_Mo_strangers_14 : decode b_Mo_strangers 14 = .ok (.aload_n 0, 1) := by decide +kernel
theorem d_Mo_strangers_15 : decode b_Mo_strangers 15 = .ok (.iload_n 2, 1) := by decide +kernel
theorem d_Mo_strangers_16 : decode b_Mo_strangers 16 = .ok (.iconst 2, 1) := by decide +kernel
theorem d_Mo_strangers_17 : decode b_Mo_strangers 17 = .ok (.invokevirtual 101, 3) := by decide +kernel
theorem d_Mo_strangers_20 : decode b_Mo_strangers 20 = .ok (.bipush 7, 2) := by decide +kernel
theorem d_Mo_strangers_22 : decode b_Mo_strangers 22 = .ok (.if_icmp .gt 7, 3) := by decide +kernel
theorem d_Mo_strangers_25 : decode b_Mo_strangers 25 = .ok (.iconst 0, 1) := by decide +kernel
theorem d_Mo_strangers_26 : decode b_Mo_strangers 26 = .ok (.goto 4, 3) := by decide +kernel
theorem d_Mo_strangers_29 : decode b_Mo_strangers 29 = .ok (.iconst 1, 1) := by decide +kernel
theorem d_Mo_strangers_30 : decode b_Mo_strangers 30 = .ok (.istore_n 3, 1) := by decide +kernel
theorem d_Mo_strangers_31 : decode b_Mo_strangers 31 = .ok (.iload_n 1, 1) := by decide +kernel
theorem d_Mo_strangers_32 : decode b_Mo_strangers 32 = .ok (.iload_n 3, 1) := by decide +kernel
theorem d_Mo_strangers_33 : decode b_Mo_strangers 33 = .ok (.aload_n 0, 1) := by decide +kernel
theorem d_Mo_strangers_34 : decode b_Mo_strangers 34 = .ok (.iload_n 2, 1) := by decide +kernel
theorem d_Mo_strangers_35 : decode b_Mo_strangers 35 = .ok (.iconst 1, 1) := by decide +kernel
theorem d_Mo_strangers_36 : decode b_Mo_strangers 36 = .ok (.invokevirtual 101, 3) := by decide +kernel
theorem d_Mo_strangers_39 : decode b_Mo_strangers 39 = .ok (.if_icmp .eq 9, 3) := by decide +kernel
theorem d_Mo_strangers_42 : decode b_Mo_strangers 42 = .ok (.iconst 1, 1) := by decide +kernel
theorem d_Mo_strangers_43 : decode b_Mo_strangers 43 = .ok (.iload_n 2, 1) := by decide +kernel
theorem d_Mo_strangers_44 : decode b_Mo_strangers 44 = .ok (.ishl, 1) := by decide +kernel
theorem d_Mo_strangers_45 : decode b_Mo_strangers 45 = .ok (.goto 4, 3) := by decide +kernel
theorem d_Mo_strangers_48 : decode b_Mo_strangers 48 = .ok (.iconst 0, 1) := by decide +kernel
theorem d_Mo_strangers_49 : decode b_Mo_strangers 49 = .ok (.ior, 1) := by decide +kernel
theorem d_Mo_strangers_50 : decode b_Mo_strangers 50 = .ok (.istore_n 1, 1) := by decide +kernel
theorem d_Mo_strangers_51 : decode b_Mo_strangers 51 = .ok (.iinc 2 1, 3) := by decide +kernel
theorem d_Mo_strangers_54 : decode b_Mo_strangers 54 = .ok (.goto (-50), 3) := by decide +kernel
theorem d_Mo_strangers_57 : decode b_Mo_strangers 57 = .ok (.iload_n 1, 1) := by decide +kernel
theorem d_Mo_strangers_58 : decode b_Mo_strangers 58 = .ok (.ireturn, 1) := by decide +kernel
theorem d_Mo_subscribers_0 : decode b_Mo_subscribers 0 = .ok (.iconst 0, 1) := by decide +kernel
theorem d_Mo_subscribers_1 : decode b_Mo_subscribers 1 = .ok (.istore_n 1, 1) := by decide +kernel
theorem d_Mo_subscribers_2 : decode b_Mo_subscribers 2 = .ok (.iconst 0, 1) := by decide +kernel
theorem d_Mo_subscribers_3 : decode b_Mo_subscribers 3 = .ok (.istore_n 2, 1) := by decide +kernel
theorem d_Mo_subscribers_4 : decode b_Mo_subscribers 4 = .ok (.iload_n 2, 1) := by decide +kernel
theorem d_Mo_subscribers_5 : decode b_Mo_subscribers 5 = .ok (.aload_n 0, 1) := by decide +kernel
theorem d_Mo_subscribers_6 : decode b_Mo_subscribers 6 = .ok (.getfield 9, 3) := by decide +kernel
theorem d_Mo_subscribers_9 : decode b_Mo_subscribers 9 = .ok (.iconst 1, 1) := by decide +kernel
theorem d_Mo_subscribers_10 : decode b_Mo_subscribers 10 = .ok (.iaload, 1) := by decide +kernel
theorem d_Mo_subscribers_11 : decode b_Mo_subscribers 11 = .ok (.if_icmp .ge 28, 3) := by decide +kernel
theorem d_Mo_subscribers_14 : decode b_Mo_subscribers 14 = .ok (.iload_n 1, 1) := by decide +kernel
theorem d_Mo_subscribers_15 : decode b_Mo_subscribers 15 = .ok (.aload_n 0, 1) := by decide +kernel
theorem d_Mo_subscribers_16 : decode b_Mo_subscribers 16 = .ok (.iload_n 2, 1) := by decide +kernel
theorem d_Mo_subscribers_17 : decode b_Mo_subscribers 17 = .ok (.iconst 3, 1) := by decide +kernel
theorem d_Mo_subscribers_18 : decode b_Mo_subscribers 18 = .ok (.invokevirtual 101, 3) := by decide +kernel
theorem d_Mo_subscribers_21 : decode b_Mo_subscribers 21 = .ok (.ifCond .le 9, 3) := by decide +kernel
theorem d_Mo_subscribers_24 : decode b_Mo_subscribers 24 = .ok (.iconst 1, 1) := by decide +kernel
theorem d_Mo_subscribers_25 : decode b_Mo_subscribers 25 = .ok (.iload_n 2, 1) := by decide +kernel
theorem d_Mo_subscribers_26 : decode b_Mo_subscribers 26 = .ok (.ishl, 1) := by decide +kernel
theorem d_Mo_subscribers_27 : decode b_Mo_subscribers 27 = .ok (.goto 4, 3) := by decide +kernel
theorem d_Mo_subscribers_30 : decode b_Mo_subscribers 30 = .ok (.iconst 0, 1) := by decide +kernel
theorem d_Mo_subscribers_31 : decode b_Mo_subscribers 31 = .ok (.ior, 1) := by decide +kernel
theorem d_Mo_subscribers_32 : decode b_Mo_subscribers 32 = .ok (.istore_n 1, 1) := by decide +kernel
theorem d_Mo_subscribers_33 : decode b_Mo_subscribers 33 = .ok (.iinc 2 1, 3) := by decide +kernel
theorem d_Mo_subscribers_36 : decode b_Mo_subscribers 36 = .ok (.goto (-32), 3) := by decide +kernel
theorem d_Mo_subscribers_39 : decode b_Mo_subscribers 39 = .ok (.iload_n 1, 1) := by decide +kernel
theorem d_Mo_subscribers_40 : decode b_Mo_subscribers 40 = .ok (.ireturn, 1) := by decide +kernel
theorem d_Mo_cellsOf_0 : decode b_Mo_cellsOf 0 = .ok (.iconst 0, 1) := by decide +kernel
theorem d_Mo_cellsOf_1 : decode b_Mo_cellsOf 1 = .ok (.istore_n 1, 1) := by decide +kernel
theorem d_Mo_cellsOf_2 : decode b_Mo_cellsOf 2 = .ok (.iconst 0, 1) := by decide +kernel
theorem d_Mo_cellsOf_3 : decode b_Mo_cellsOf 3 = .ok (.istore_n 2, 1) := by decide +kernel
theorem d_Mo_cellsOf_4 : decode b_Mo_cellsOf 4 = .ok (.iload_n 2, 1) := by decide +kernel
theorem d_Mo_cellsOf_5 : decode b_Mo_cellsOf 5 = .ok (.aload_n 0, 1) := by decide +kernel
theorem d_Mo_cellsOf_6 : decode b_Mo_cellsOf 6 = .ok (.getfield 9, 3) := by decide +kernel
theorem d_Mo_cellsOf_9 : decode b_Mo_cellsOf 9 = .ok (.iconst 1, 1) := by decide +kernel
theorem d_Mo_cellsOf_10 : decode b_Mo_cellsOf 10 = .ok (.iaload, 1) := by decide +kernel
theorem d_Mo_cellsOf_11 : decode b_Mo_cellsOf 11 = .ok (.if_icmp .ge 20, 3) := by decide +kernel
theorem d_Mo_cellsOf_14 : decode b_Mo_cellsOf 14 = .ok (.iload_n 1, 1) := by decide +kernel
theorem d_Mo_cellsOf_15 : decode b_Mo_cellsOf 15 = .ok (.iconst 1, 1) := by decide +kernel
theorem d_Mo_cellsOf_16 : decode b_Mo_cellsOf 16 = .ok (.aload_n 0, 1) := by decide +kernel
theorem d_Mo_cellsOf_17 : decode b_Mo_cellsOf 17 = .ok (.iload_n 2, 1) := by decide +kernel
theorem d_Mo_cellsOf_18 : decode b_Mo_cellsOf 18 = .ok (.iconst 2, 1) := by decide +kernel
theorem d_Mo_cellsOf_19 : decode b_Mo_cellsOf 19 = .ok (.invokevirtual 101, 3) := by decide +kernel
theorem d_Mo_cellsOf_22 : decode b_Mo_cellsOf 22 = .ok (.ishl, 1) := by decide +kernel
theorem d_Mo_cellsOf_23 : decode b_Mo_cellsOf 23 = .ok (.ior, 1) := by decide +kernel
theorem d_Mo_cellsOf_24 : decode b_Mo_cellsOf 24 = .ok (.istore_n 1, 1) := by decide +kernel
theorem d_Mo_cellsOf_25 : decode b_Mo_cellsOf 25 = .ok (.iinc 2 1, 3) := by decide +kernel
theorem d_Mo_cellsOf_28 : decode b_Mo_cellsOf 28 = .ok (.goto (-24), 3) := by decide +kernel
theorem d_Mo_cellsOf_31 : decode b_Mo_cellsOf 31 = .ok (.iload_n 1, 1) := by decide +kernel
theorem d_Mo_cellsOf_32 : decode b_Mo_cellsOf 32 = .ok (.ireturn, 1) := by decide +kernel
theorem d_Mo_pairs_0 : decode b_Mo_pairs 0 = .ok (.iconst 0, 1) := by decide +kernel
theorem d_Mo_pairs_1 : decode b_Mo_pairs 1 = .ok (.istore_n 1, 1) := by decide +kernel
theorem d_Mo_pairs_2 : decode b_Mo_pairs 2 = .ok (.iconst 0, 1) := by decide +kernel
theorem d_Mo_pairs_3 : decode b_Mo_pairs 3 = .ok (.istore_n 2, 1) := by decide +kernel
theorem d_Mo_pairs_4 : decode b_Mo_pairs 4 = .ok (.iload_n 2, 1) := by decide +kernel
theorem d_Mo_pairs_5 : decode b_Mo_pairs 5 = .ok (.aload_n 0, 1) := by decide +kernel
theorem d_Mo_pairs_6 : decode b_Mo_pairs 6 = .ok (.getfield 9, 3) := by decide +kernel
theorem d_Mo_pairs_9 : decode b_Mo_pairs 9 = .ok (.iconst 1, 1) := by decide +kernel
theorem d_Mo_pairs_10 : decode b_Mo_pairs 10 = .ok (.iaload, 1) := by decide +kernel
theorem d_Mo_pairs_11 : decode b_Mo_pairs 11 = .ok (.if_icmp .ge 46, 3) := by decide +kernel
theorem d_Mo_pairs_14 : decode b_Mo_pairs 14 = .ok (.iload_n 2, 1) := by decide +kernel
theorem d_Mo_pairs_15 : decode b_Mo_pairs 15 = .ok (.iconst 1, 1) := by decide +kernel
theorem d_Mo_pairs_16 : decode b_Mo_pairs 16 = .ok (.iadd, 1) := by decide +kernel
theorem d_Mo_pairs_17 : decode b_Mo_pairs 17 = .ok (.istore_n 3, 1) := by decide +kernel
theorem d_Mo_pairs_18 : decode b_Mo_pairs 18 = .ok (.iload_n 3, 1) := by decide +kernel
theorem d_Mo_pairs_19 : decode b_Mo_pairs 19 = .ok (.aload_n 0, 1) := by decide +kernel
theorem d_Mo_pairs_20 : decode b_Mo_pairs 20 = .ok (.getfield 9, 3) := by decide +kernel
theorem d_Mo_pairs_23 : decode b_Mo_pairs 23 = .ok (.iconst 1, 1) := by decide +kernel
theorem d_Mo_pairs_24 : decode b_Mo_pairs 24 = .ok (.iaload, 1) := by decide +kernel
theorem d_Mo_pairs_25 : decode b_Mo_pairs 25 = .ok (.if_icmp .ge 26, 3) := by decide +kernel
theorem d_Mo_pairs_28 : decode b_Mo_pairs 28 = .ok (.iload_n 1, 1) := by decide +kernel
theorem d_Mo_pairs_29 : decode b_Mo_pairs 29 = .ok (.aload_n 0, 1) := by decide +kernel
theorem d_Mo_pairs_30 : decode b_Mo_pairs 30 = .ok (.iload_n 2, 1) := by decide +kernel
theorem d_Mo_pairs_31 : decode b_Mo_pairs 31 = .ok (.iload_n 3, 1) := by decide +kernel
theorem d_Mo_pairs_32 : decode b_Mo_pairs 32 = .ok (.invokevirtual 131, 3) := by decide +kernel
theorem d_Mo_pairs_35 : decode b_Mo_pairs 35 = .ok (.ifCond .eq 7, 3) := by decide +kernel
theorem d_Mo_pairs_38 : decode b_Mo_pairs 38 = .ok (.iconst 1, 1) := by decide +kernel
theorem d_Mo_pairs_39 : decode b_Mo_pairs 39 = .ok (.goto 4, 3) := by decide +kernel
theorem d_Mo_pairs_42 : decode b_Mo_pairs 42 = .ok (.iconst 0, 1) := by decide +kernel
theorem d_Mo_pairs_43 : decode b_Mo_pairs 43 = .ok (.iadd, 1) := by decide +kernel
theorem d_Mo_pairs_44 : decode b_Mo_pairs 44 = .ok (.istore_n 1, 1) := by decide +kernel
theorem d_Mo_pairs_45 : decode b_Mo_pairs 45 = .ok (.iinc 3 1, 3) := by decide +kernel
theorem d_Mo_pairs_48 : decode b_Mo_pairs 48 = .ok (.goto (-30), 3) := by decide +kernel
theorem d_Mo_pairs_51 : decode b_Mo_pairs 51 = .ok (.iinc 2 1, 3) := by decide +kernel
theorem d_Mo_pairs_54 : decode b_Mo_pairs 54 = .ok (.goto (-50), 3) := by decide +kernel
theorem d_Mo_pairs_57 : decode b_Mo_pairs 57 = .ok (.iload_n 1, 1) := by decide +kernel
theorem d_Mo_pairs_58 : decode b_Mo_pairs 58 = .ok (.ireturn, 1) := by decide +kernel
theorem d_Mo_metMost_0 : decode b_Mo_metMost 0 = .ok (.iconst (-1), 1) := by decide +kernel
theorem d_Mo_metMost_1 : decode b_Mo_metMost 1 = .ok (.istore_n 1, 1) := by decide +kernel
theorem d_Mo_metMost_2 : decode b_Mo_metMost 2 = .ok (.iconst 0, 1) := by decide +kernel
theorem d_Mo_metMost_3 : decode b_Mo_metMost 3 = .ok (.istore_n 2, 1) := by decide +kernel
theorem d_Mo_metMost_4 : decode b_Mo_metMost 4 = .ok (.iload_n 2, 1) := by decide +kernel
theorem d_Mo_metMost_5 : decode b_Mo_metMost 5 = .ok (.aload_n 0, 1) := by decide +kernel
theorem d_Mo_metMost_6 : decode b_Mo_metMost 6 = .ok (.getfield 9, 3) := by decide +kernel
theorem d_Mo_metMost_9 : decode b_Mo_metMost 9 = .ok (.iconst 1, 1) := by decide +kernel
theorem d_Mo_metMost_10 : decode b_Mo_metMost 10 = .ok (.iaload, 1) := by decide +kernel
theorem d_Mo_metMost_11 : decode b_Mo_metMost 11 = .ok (.if_icmp .ge 34, 3) := by decide +kernel
theorem d_Mo_metMost_14 : decode b_Mo_metMost 14 = .ok (.iload_n 1, 1) := by decide +kernel
theorem d_Mo_metMost_15 : decode b_Mo_metMost 15 = .ok (.ifCond .lt 18, 3) := by decide +kernel
theorem d_Mo_metMost_18 : decode b_Mo_metMost 18 = .ok (.aload_n 0, 1) := by decide +kernel
theorem d_Mo_metMost_19 : decode b_Mo_metMost 19 = .ok (.iload_n 2, 1) := by decide +kernel
theorem d_Mo_metMost_20 : decode b_Mo_metMost 20 = .ok (.iconst 5, 1) := by decide +kernel
theorem d_Mo_metMost_21 : decode b_Mo_metMost 21 = .ok (.invokevirtual 101, 3) := by decide +kernel
theorem d_Mo_metMost_24 : decode b_Mo_metMost 24 = .ok (.aload_n 0, 1) := by decide +kernel
theorem d_Mo_metMost_25 : decode b_Mo_metMost 25 = .ok (.iload_n 1, 1) := by decide +kernel
theorem d_Mo_metMost_26 : decode b_Mo_metMost 26 = .ok (.iconst 5, 1) := by decide +kernel
theorem d_Mo_metMost_27 : decode b_Mo_metMost 27 = .ok (.invokevirtual 101, 3) := by decide +kernel
theorem d_Mo_metMost_30 : decode b_Mo_metMost 30 = .ok (.if_icmp .le 7, 3) := by decide +kernel
theorem d_Mo_metMost_33 : decode b_Mo_metMost 33 = .ok (.iload_n 2, 1) := by decide +kernel
theorem d_Mo_metMost_34 : decode b_Mo_metMost 34 = .ok (.goto 4, 3) := by decide +kernel
theorem d_Mo_metMost_37 : decode b_Mo_metMost 37 = .ok (.iload_n 1, 1) := by decide +kernel
theorem d_Mo_metMost_38 : decode b_Mo_metMost 38 = .ok (.istore_n 1, 1) := by decide +kernel
theorem d_Mo_metMost_39 : decode b_Mo_metMost 39 = .ok (.iinc 2 1, 3) := by decide +kernel
theorem d_Mo_metMost_42 : decode b_Mo_metMost 42 = .ok (.goto (-38), 3) := by decide +kernel
theorem d_Mo_metMost_45 : decode b_Mo_metMost 45 = .ok (.iload_n 1, 1) := by decide +kernel
theorem d_Mo_metMost_46 : decode b_Mo_metMost 46 = .ok (.ireturn, 1) := by decide +kernel
theorem d_Mo_now_0 : decode b_Mo_now 0 = .ok (.iload_n 1, 1) := by decide +kernel
theorem d_Mo_now_1 : decode b_Mo_now 1 = .ok (.tableswitch 91 0 7 #[47, 54, 61, 66, 71, 76, 81, 86], 47) := by decide +kernel
theorem d_Mo_now_48 : decode b_Mo_now 48 = .ok (.aload_n 0, 1) := by decide +kernel
theorem d_Mo_now_49 : decode b_Mo_now 49 = .ok (.getfield 9, 3) := by decide +kernel
theorem d_Mo_now_52 : decode b_Mo_now 52 = .ok (.iconst 0, 1) := by decide +kernel
theorem d_Mo_now_53 : decode b_Mo_now 53 = .ok (.iaload, 1) := by decide +kernel
theorem d_Mo_now_54 : decode b_Mo_now 54 = .ok (.ireturn, 1) := by decide +kernel
theorem d_Mo_now_55 : decode b_Mo_now 55 = .ok (.aload_n 0, 1) := by decide +kernel
theorem d_Mo_now_56 : decode b_Mo_now 56 = .ok (.getfield 9, 3) := by decide +kernel
theorem d_Mo_now_59 : decode b_Mo_now 59 = .ok (.iconst 3, 1) := by decide +kernel
theorem d_Mo_now_60 : decode b_Mo_now 60 = .ok (.iaload, 1) := by decide +kernel
theorem d_Mo_now_61 : decode b_Mo_now 61 = .ok (.ireturn, 1) := by decide +kernel
theorem d_Mo_now_62 : decode b_Mo_now 62 = .ok (.aload_n 0, 1) := by decide +kernel
theorem d_Mo_now_63 : decode b_Mo_now 63 = .ok (.invokevirtual 165, 3) := by decide +kernel
theorem d_Mo_now_66 : decode b_Mo_now 66 = .ok (.ireturn, 1) := by decide +kernel
theorem d_Mo_now_67 : decode b_Mo_now 67 = .ok (.aload_n 0, 1) := by decide +kernel
theorem d_Mo_now_68 : decode b_Mo_now 68 = .ok (.invokevirtual 168, 3) := by decide +kernel
theorem d_Mo_now_71 : decode b_Mo_now 71 = .ok (.ireturn, 1) := by decide +kernel
theorem d_Mo_now_72 : decode b_Mo_now 72 = .ok (.aload_n 0, 1) := by decide +kernel
theorem d_Mo_now_73 : decode b_Mo_now 73 = .ok (.invokevirtual 171, 3) := by decide +kernel
theorem d_Mo_now_76 : decode b_Mo_now 76 = .ok (.ireturn, 1) := by decide +kernel
theorem d_Mo_now_77 : decode b_Mo_now 77 = .ok (.aload_n 0, 1) := by decide +kernel
theorem d_Mo_now_78 : decode b_Mo_now 78 = .ok (.invokevirtual 174, 3) := by decide +kernel
theorem d_Mo_now_81 : decode b_Mo_now 81 = .ok (.ireturn, 1) := by decide +kernel
theorem d_Mo_now_82 : decode b_Mo_now 82 = .ok (.aload_n 0, 1) := by decide +kernel
theorem d_Mo_now_83 : decode b_Mo_now 83 = .ok (.invokevirtual 177, 3) := by decide +kernel
theorem d_Mo_now_86 : decode b_Mo_now 86 = .ok (.ireturn, 1) := by decide +kernel
theorem d_Mo_now_87 : decode b_Mo_now 87 = .ok (.aload_n 0, 1) := by decide +kernel
theorem d_Mo_now_88 : decode b_Mo_now 88 = .ok (.invokevirtual 180, 3) := by decide +kernel
theorem d_Mo_now_91 : decode b_Mo_now 91 = .ok (.ireturn, 1) := by decide +kernel
theorem d_Mo_now_92 : decode b_Mo_now 92 = .ok (.aload_n 0, 1) := by decide +kernel
theorem d_Mo_now_93 : decode b_Mo_now 93 = .ok (.ldc 60, 2) := by decide +kernel
theorem d_Mo_now_95 : decode b_Mo_now 95 = .ok (.invokevirtual 66, 3) := by decide +kernel
theorem d_Mo_now_98 : decode b_Mo_now 98 = .ok (.ireturn, 1) := by decide +kernel
theorem d_Mo_behind_0 : decode b_Mo_behind 0 = .ok (.aload_n 0, 1) := by decide +kernel
theorem d_Mo_behind_1 : decode b_Mo_behind 1 = .ok (.getfield 9, 3) := by decide +kernel
theorem d_Mo_behind_4 : decode b_Mo_behind 4 = .ok (.aload_n 0, 1) := by decide +kernel
theorem d_Mo_behind_5 : decode b_Mo_behind 5 = .ok (.getfield 16, 3) := by decide +kernel
theorem d_Mo_behind_8 : decode b_Mo_behind 8 = .ok (.invokestatic 61, 3) := by decide +kernel
theorem d_Mo_behind_11 : decode b_Mo_behind 11 = .ok (.aload_n 0, 1) := by decide +kernel
theorem d_Mo_behind_12 : decode b_Mo_behind 12 = .ok (.iload_n 2, 1) := by decide +kernel
theorem d_Mo_behind_13 : decode b_Mo_behind 13 = .ok (.invokevirtual 161, 3) := by decide +kernel
theorem d_Mo_behind_16 : decode b_Mo_behind 16 = .ok (.aload_n 0, 1) := by decide +kernel
theorem d_Mo_behind_17 : decode b_Mo_behind 17 = .ok (.aload_n 0, 1) := by decide +kernel
theorem d_Mo_behind_18 : decode b_Mo_behind 18 = .ok (.getfield 9, 3) := by decide +kernel
theorem d_Mo_behind_21 : decode b_Mo_behind 21 = .ok (.iload_n 1, 1) := by decide +kernel
theorem d_Mo_behind_22 : decode b_Mo_behind 22 = .ok (.iaload, 1) := by decide +kernel
theorem d_Mo_behind_23 : decode b_Mo_behind 23 = .ok (.invokevirtual 183, 3) := by decide +kernel
theorem d_Mo_behind_26 : decode b_Mo_behind 26 = .ok (.ireturn, 1) := by decide +kernel
theorem d_Mo_ahead_0 : decode b_Mo_ahead 0 = .ok (.iload_n 2, 1) := by decide +kernel
theorem d_Mo_ahead_1 : decode b_Mo_ahead 1 = .ok (.iconst 2, 1) := by decide +kernel
theorem d_Mo_ahead_2 : decode b_Mo_ahead 2 = .ok (.iconst 3, 1) := by decide +kernel
theorem d_Mo_ahead_3 : decode b_Mo_ahead 3 = .ok (.invokestatic 70, 3) := by decide +kernel
theorem d_Mo_ahead_6 : decode b_Mo_ahead 6 = .ok (.ifCond .ne 14, 3) := by decide +kernel
theorem d_Mo_ahead_9 : decode b_Mo_ahead 9 = .ok (.iload_n 2, 1) := by decide +kernel
theorem d_Mo_ahead_10 : decode b_Mo_ahead 10 = .ok (.iconst 5, 1) := by decide +kernel
theorem d_Mo_ahead_11 : decode b_Mo_ahead 11 = .ok (.if_icmp .eq 9, 3) := by decide +kernel
theorem d_Mo_ahead_14 : decode b_Mo_ahead 14 = .ok (.iload_n 2, 1) := by decide +kernel
theorem d_Mo_ahead_15 : decode b_Mo_ahead 15 = .ok (.bipush 7, 2) := by decide +kernel
theorem d_Mo_ahead_17 : decode b_Mo_ahead 17 = .ok (.if_icmp .ne 7, 3) := by decide +kernel
theorem d_Mo_ahead_20 : decode b_Mo_ahead 20 = .ok (.iconst 1, 1) := by decide +kernel
theorem d_Mo_ahead_21 : decode b_Mo_ahead 21 = .ok (.goto 4, 3) := by decide +kernel
theorem d_Mo_ahead_24 : decode b_Mo_ahead 24 = .ok (.iconst 0, 1) := by decide +kernel
theorem d_Mo_ahead_25 : decode b_Mo_ahead 25 = .ok (.istore 4, 2) := by decide +kernel
theorem d_Mo_ahead_27 : decode b_Mo_ahead 27 = .ok (.aload_n 0, 1) := by decide +kernel
theorem d_Mo_ahead_28 : decode b_Mo_ahead 28 = .ok (.iload_n 1, 1) := by decide +kernel
theorem d_Mo_ahead_29 : decode b_Mo_ahead 29 = .ok (.invokevirtual 121, 3) := by decide +kernel
theorem d_Mo_ahead_32 : decode b_Mo_ahead 32 = .ok (.ifCond .eq 18, 3) := by decide +kernel
theorem d_Mo_ahead_35 : decode b_Mo_ahead 35 = .ok (.iload 4, 2) := by decide +kernel
theorem d_Mo_ahead_37 : decode b_Mo_ahead 37 = .ok (.ifCond .eq 13, 3) := by decide +kernel
theorem d_Mo_ahead_40 : decode b_Mo_ahead 40 = .ok (.iload_n 3, 1) := by decide +kernel
theorem d_Mo_ahead_41 : decode b_Mo_ahead 41 = .ok (.iconst 0, 1) := by decide +kernel
theorem d_Mo_ahead_42 : decode b_Mo_ahead 42 = .ok (.bipush 100, 2) := by decide +kernel
theorem d_Mo_ahead_44 : decode b_Mo_ahead 44 = .ok (.invokestatic 70, 3) := by decide +kernel
theorem d_Mo_ahead_47 : decode b_Mo_ahead 47 = .ok (.ifCond .ne 10, 3) := by decide +kernel
theorem d_Mo_ahead_50 : decode b_Mo_ahead 50 = .ok (.aload_n 0, 1) := by decide +kernel
theorem d_Mo_ahead_51 : decode b_Mo_ahead 51 = .ok (.ldc 60, 2) := by decide +kernel
theorem d_Mo_ahead_53 : decode b_Mo_ahead 53 = .ok (.invokevirtual 66, 3) := by decide +kernel
theorem d_Mo_ahead_56 : decode b_Mo_ahead 56 = .ok (.ireturn, 1) := by decide +kernel
theorem d_Mo_ahead_57 : decode b_Mo_ahead 57 = .ok (.aload_n 0, 1) := by decide +kernel
theorem d_Mo_ahead_58 : decode b_Mo_ahead 58 = .ok (.getfield 9, 3) := by decide +kernel
theorem d_Mo_ahead_61 : decode b_Mo_ahead 61 = .ok (.aload_n 0, 1) := by decide +kernel
theorem d_Mo_ahead_62 : decode b_Mo_ahead 62 = .ok (.getfield 16, 3) := by decide +kernel
theorem d_Mo_ahead_65 : decode b_Mo_ahead 65 = .ok (.invokestatic 61, 3) := by decide +kernel
theorem d_Mo_ahead_68 : decode b_Mo_ahead 68 = .ok (.aload_n 0, 1) := by decide +kernel
theorem d_Mo_ahead_69 : decode b_Mo_ahead 69 = .ok (.iload_n 3, 1) := by decide +kernel
theorem d_Mo_ahead_70 : decode b_Mo_ahead 70 = .ok (.invokevirtual 161, 3) := by decide +kernel
theorem d_Mo_ahead_73 : decode b_Mo_ahead 73 = .ok (.aload_n 0, 1) := by decide +kernel
theorem d_Mo_ahead_74 : decode b_Mo_ahead 74 = .ok (.aload_n 0, 1) := by decide +kernel
theorem d_Mo_ahead_75 : decode b_Mo_ahead 75 = .ok (.iload_n 1, 1) := by decide +kernel
theorem d_Mo_ahead_76 : decode b_Mo_ahead 76 = .ok (.iload_n 2, 1) := by decide +kernel
theorem d_Mo_ahead_77 : decode b_Mo_ahead 77 = .ok (.invokevirtual 124, 3) := by decide +kernel
theorem d_Mo_ahead_80 : decode b_Mo_ahead 80 = .ok (.invokevirtual 183, 3) := by decide +kernel
theorem d_Mo_ahead_83 : decode b_Mo_ahead 83 = .ok (.ireturn, 1) := by decide +kernel
theorem d_Mo_noise_0 : decode b_Mo_noise 0 = .ok (.iload_n 1, 1) := by decide +kernel
theorem d_Mo_noise_1 : decode b_Mo_noise 1 = .ok (.iconst 0, 1) := by decide +kernel
theorem d_Mo_noise_2 : decode b_Mo_noise 2 = .ok (.bipush 100, 2) := by decide +kernel
theorem d_Mo_noise_4 : decode b_Mo_noise 4 = .ok (.invokestatic 70, 3) := by decide +kernel
theorem d_Mo_noise_7 : decode b_Mo_noise 7 = .ok (.ifCond .eq 12, 3) := by decide +kernel
theorem d_Mo_noise_10 : decode b_Mo_noise 10 = .ok (.aload_n 0, 1) := by decide +kernel
theorem d_Mo_noise_11 : decode b_Mo_noise 11 = .ok (.iconst 3, 1) := by decide +kernel
theorem d_Mo_noise_12 : decode b_Mo_noise 12 = .ok (.iload_n 1, 1) := by decide +kernel
theorem d_Mo_noise_13 : decode b_Mo_noise 13 = .ok (.invokevirtual 186, 3) := by decide +kernel
theorem d_Mo_noise_16 : decode b_Mo_noise 16 = .ok (.goto 9, 3) := by decide +kernel
theorem d_Mo_noise_19 : decode b_Mo_noise 19 = .ok (.aload_n 0, 1) := by decide +kernel
theorem d_Mo_noise_20 : decode b_Mo_noise 20 = .ok (.ldc 60, 2) := by decide +kernel
theorem d_Mo_noise_22 : decode b_Mo_noise 22 = .ok (.invokevirtual 66, 3) := by decide +kernel
theorem d_Mo_noise_25 : decode b_Mo_noise 25 = .ok (.ireturn, 1) := by decide +kernel
theorem d_Mo_daysTo_0 : decode b_Mo_daysTo 0 = .ok (.aload_n 0, 1) := by decide +kernel
theorem d_Mo_daysTo_1 : decode b_Mo_daysTo 1 = .ok (.getfield 9, 3) := by decide +kernel
theorem d_Mo_daysTo_4 : decode b_Mo_daysTo 4 = .ok (.aload_n 0, 1) := by decide +kernel
theorem d_Mo_daysTo_5 : decode b_Mo_daysTo 5 = .ok (.getfield 16, 3) := by decide +kernel
theorem d_Mo_daysTo_8 : decode b_Mo_daysTo 8 = .ok (.invokestatic 61, 3) := by decide +kernel
theorem d_Mo_daysTo_11 : decode b_Mo_daysTo 11 = .ok (.iconst 0, 1) := by decide +kernel
theorem d_Mo_daysTo_12 : decode b_Mo_daysTo 12 = .ok (.istore 4, 2) := by decide +kernel
theorem d_Mo_daysTo_14 : decode b_Mo_daysTo 14 = .ok (.iload 4, 2) := by decide +kernel
theorem d_Mo_daysTo_16 : decode b_Mo_daysTo 16 = .ok (.sipush 200, 3) := by decide +kernel
theorem d_Mo_daysTo_19 : decode b_Mo_daysTo 19 = .ok (.if_icmp .ge 27, 3) := by decide +kernel
theorem d_Mo_daysTo_22 : decode b_Mo_daysTo 22 = .ok (.aload_n 0, 1) := by decide +kernel
theorem d_Mo_daysTo_23 : decode b_Mo_daysTo 23 = .ok (.getfield 9, 3) := by decide +kernel
theorem d_Mo_daysTo_26 : decode b_Mo_daysTo 26 = .ok (.iload_n 1, 1) := by decide +kernel
theorem d_Mo_daysTo_27 : decode b_Mo_daysTo 27 = .ok (.iaload, 1) := by decide +kernel
theorem d_Mo_daysTo_28 : decode b_Mo_daysTo 28 = .ok (.iload_n 2, 1) := by decide +kernel
theorem d_Mo_daysTo_29 : decode b_Mo_daysTo 29 = .ok (.iload_n 3, 1) := by decide +kernel
theorem d_Mo_daysTo_30 : decode b_Mo_daysTo 30 = .ok (.invokestatic 70, 3) := by decide +kernel
theorem d_Mo_daysTo_33 : decode b_Mo_daysTo 33 = .ok (.ifCond .ne 13, 3) := by decide +kernel
theorem d_Mo_daysTo_36 : decode b_Mo_daysTo 36 = .ok (.aload_n 0, 1) := by decide +kernel
theorem d_Mo_daysTo_37 : decode b_Mo_daysTo 37 = .ok (.invokevirtual 157, 3) := by decide +kernel
theorem d_Mo_daysTo_40 : decode b_Mo_daysTo 40 = .ok (.iinc 4 1, 3) := by decide +kernel
theorem d_Mo_daysTo_43 : decode b_Mo_daysTo 43 = .ok (.goto (-29), 3) := by decide +kernel
theorem d_Mo_daysTo_46 : decode b_Mo_daysTo 46 = .ok (.aload_n 0, 1) := by decide +kernel
theorem d_Mo_daysTo_47 : decode b_Mo_daysTo 47 = .ok (.aload_n 0, 1) := by decide +kernel
theorem d_Mo_daysTo_48 : decode b_Mo_daysTo 48 = .ok (.getfield 9, 3) := by decide +kernel
theorem d_Mo_daysTo_51 : decode b_Mo_daysTo 51 = .ok (.iload_n 1, 1) := by decide +kernel
theorem d_Mo_daysTo_52 : decode b_Mo_daysTo 52 = .ok (.iaload, 1) := by decide +kernel
theorem d_Mo_daysTo_53 : decode b_Mo_daysTo 53 = .ok (.iload_n 2, 1) := by decide +kernel
theorem d_Mo_daysTo_54 : decode b_Mo_daysTo 54 = .ok (.iload_n 3, 1) := by decide +kernel
theorem d_Mo_daysTo_55 : decode b_Mo_daysTo 55 = .ok (.invokestatic 70, 3) := by decide +kernel
theorem d_Mo_daysTo_58 : decode b_Mo_daysTo 58 = .ok (.ifCond .eq 8, 3) := by decide +kernel
theorem d_Mo_daysTo_61 : decode b_Mo_daysTo 61 = .ok (.iload 4, 2) := by decide +kernel
theorem d_Mo_daysTo_63 : decode b_Mo_daysTo 63 = .ok (.goto 4, 3) := by decide +kernel
theorem d_Mo_daysTo_66 : decode b_Mo_daysTo 66 = .ok (.iconst (-1), 1) := by decide +kernel
theorem d_Mo_daysTo_67 : decode b_Mo_daysTo 67 = .ok (.invokevirtual 183, 3) := by decide +kernel
theorem d_Mo_daysTo_70 : decode b_Mo_daysTo 70 = .ok (.ireturn, 1) := by decide +kernel
theorem d_Mo_stills_0 : decode b_Mo_stills 0 = .ok (.iload_n 1, 1) := by decide +kernel
theorem d_Mo_stills_1 : decode b_Mo_stills 1 = .ok (.invokestatic 74, 3) := by decide +kernel
theorem d_Mo_stills_4 : decode b_Mo_stills 4 = .ok (.ifCond .eq 17, 3) := by decide +kernel
theorem d_Mo_stills_7 : decode b_Mo_stills 7 = .ok (.aload_n 0, 1) := by decide +kernel
theorem d_Mo_stills_8 : decode b_Mo_stills 8 = .ok (.aload_n 0, 1) := by decide +kernel
theorem d_Mo_stills_9 : decode b_Mo_stills 9 = .ok (.iconst 3, 1) := by decide +kernel
theorem d_Mo_stills_10 : decode b_Mo_stills 10 = .ok (.iconst 0, 1) := by decide +kernel
theorem d_Mo_stills_11 : decode b_Mo_stills 11 = .ok (.iload_n 1, 1) := by decide +kernel
theorem d_Mo_stills_12 : decode b_Mo_stills 12 = .ok (.invokevirtual 189, 3) := by decide +kernel
theorem d_Mo_stills_15 : decode b_Mo_stills 15 = .ok (.invokevirtual 192, 3) := by decide +kernel
theorem d_Mo_stills_18 : decode b_Mo_stills 18 = .ok (.goto 9, 3) := by decide +kernel
theorem d_Mo_stills_21 : decode b_Mo_stills 21 = .ok (.aload_n 0, 1) := by decide +kernel
theorem d_Mo_stills_22 : decode b_Mo_stills 22 = .ok (.ldc 60, 2) := by decide +kernel
theorem d_Mo_stills_24 : decode b_Mo_stills 24 = .ok (.invokevirtual 66, 3) := by decide +kernel
theorem d_Mo_stills_27 : decode b_Mo_stills 27 = .ok (.ireturn, 1) := by decide +kernel
theorem d_Mo_meets_0 : decode b_Mo_meets 0 = .ok (.aload_n 0, 1) := by decide +kernel
theorem d_Mo_meets_1 : decode b_Mo_meets 1 = .ok (.iload_n 1, 1) := by decide +kernel
theorem d_Mo_meets_2 : decode b_Mo_meets 2 = .ok (.invokevirtual 121, 3) := by decide +kernel
theorem d_Mo_meets_5 : decode b_Mo_meets 5 = .ok (.ifCond .eq 34, 3) := by decide +kernel
theorem d_Mo_meets_8 : decode b_Mo_meets 8 = .ok (.iload_n 2, 1) := by decide +kernel
theorem d_Mo_meets_9 : decode b_Mo_meets 9 = .ok (.iconst 0, 1) := by decide +kernel
theorem d_Mo_meets_10 : decode b_Mo_meets 10 = .ok (.sipush 9999, 3) := by decide +kernel
theorem d_Mo_meets_13 : decode b_Mo_meets 13 = .ok (.invokestatic 70, 3) := by decide +kernel
theorem d_Mo_meets_16 : decode b_Mo_meets 16 = .ok (.ifCond .eq 23, 3) := by decide +kernel
theorem d_Mo_meets_19 : decode b_Mo_meets 19 = .ok (.aload_n 0, 1) := by decide +kernel
theorem d_Mo_meets_20 : decode b_Mo_meets 20 = .ok (.aload_n 0, 1) := by decide +kernel
theorem d_Mo_meets_21 : decode b_Mo_meets 21 = .ok (.iload_n 1, 1) := by decide +kernel
theorem d_Mo_meets_22 : decode b_Mo_meets 22 = .ok (.iconst 5, 1) := by decide +kernel
theorem d_Mo_meets_23 : decode b_Mo_meets 23 = .ok (.invokestatic 88, 3) := by decide +kernel
theorem d_Mo_meets_26 : decode b_Mo_meets 26 = .ok (.iload_n 2, 1) := by decide +kernel
theorem d_Mo_meets_27 : decode b_Mo_meets 27 = .ok (.sipush 9999, 3) := by decide +kernel
theorem d_Mo_meets_30 : decode b_Mo_meets 30 = .ok (.invokevirtual 189, 3) := by decide +kernel
theorem d_Mo_meets_33 : decode b_Mo_meets 33 = .ok (.invokevirtual 192, 3) := by decide +kernel
theorem d_Mo_meets_36 : decode b_Mo_meets 36 = .ok (.goto 9, 3) := by decide +kernel
theorem d_Mo_meets_39 : decode b_Mo_meets 39 = .ok (.aload_n 0, 1) := by decide +kernel
theorem d_Mo_meets_40 : decode b_Mo_meets 40 = .ok (.ldc 60, 2) := by decide +kernel
theorem d_Mo_meets_42 : decode b_Mo_meets 42 = .ok (.invokevirtual 66, 3) := by decide +kernel
theorem d_Mo_meets_45 : decode b_Mo_meets 45 = .ok (.ireturn, 1) := by decide +kernel
theorem d_Mo_lapses_0 : decode b_Mo_lapses 0 = .ok (.aload_n 0, 1) := by decide +kernel
theorem d_Mo_lapses_1 : decode b_Mo_lapses 1 = .ok (.getfield 9, 3) := by decide +kernel
theorem d_Mo_lapses_4 : decode b_Mo_lapses 4 = .ok (.aload_n 0, 1) := by decide +kernel
theorem d_Mo_lapses_5 : decode b_Mo_lapses 5 = .ok (.getfield 16, 3) := by decide +kernel
theorem d_Mo_lapses_8 : decode b_Mo_lapses 8 = .ok (.invokestatic 61, 3) := by decide +kernel
theorem d_Mo_lapses_11 : decode b_Mo_lapses 11 = .ok (.iconst 0, 1) := by decide +kernel
theorem d_Mo_lapses_12 : decode b_Mo_lapses 12 = .ok (.istore_n 1, 1) := by decide +kernel
theorem d_Mo_lapses_13 : decode b_Mo_lapses 13 = .ok (.iload_n 1, 1) := by decide +kernel
theorem d_Mo_lapses_14 : decode b_Mo_lapses 14 = .ok (.sipush 200, 3) := by decide +kernel
theorem d_Mo_lapses_17 : decode b_Mo_lapses 17 = .ok (.if_icmp .ge 20, 3) := by decide +kernel
theorem d_Mo_lapses_20 : decode b_Mo_lapses 20 = .ok (.aload_n 0, 1) := by decide +kernel
theorem d_Mo_lapses_21 : decode b_Mo_lapses 21 = .ok (.invokevirtual 171, 3) := by decide +kernel
theorem d_Mo_lapses_24 : decode b_Mo_lapses 24 = .ok (.ifCond .eq 13, 3) := by decide +kernel
theorem d_Mo_lapses_27 : decode b_Mo_lapses 27 = .ok (.aload_n 0, 1) := by decide +kernel
theorem d_Mo_lapses_28 : decode b_Mo_lapses 28 = .ok (.invokevirtual 157, 3) := by decide +kernel
theorem d_Mo_lapses_31 : decode b_Mo_lapses 31 = .ok (.iinc 1 1, 3) := by decide +kernel
theorem d_Mo_lapses_34 : decode b_Mo_lapses 34 = .ok (.goto (-21), 3) := by decide +kernel
theorem d_Mo_lapses_37 : decode b_Mo_lapses 37 = .ok (.aload_n 0, 1) := by decide +kernel
theorem d_Mo_lapses_38 : decode b_Mo_lapses 38 = .ok (.aload_n 0, 1) := by decide +kernel
theorem d_Mo_lapses_39 : decode b_Mo_lapses 39 = .ok (.aload_n 0, 1) := by decide +kernel
theorem d_Mo_lapses_40 : decode b_Mo_lapses 40 = .ok (.invokevirtual 171, 3) := by decide +kernel
theorem d_Mo_lapses_43 : decode b_Mo_lapses 43 = .ok (.ifCond .ne 7, 3) := by decide +kernel
theorem d_Mo_lapses_46 : decode b_Mo_lapses 46 = .ok (.iload_n 1, 1) := by decide +kernel
theorem d_Mo_lapses_47 : decode b_Mo_lapses 47 = .ok (.goto 4, 3) := by decide +kernel
theorem d_Mo_lapses_50 : decode b_Mo_lapses 50 = .ok (.iconst (-1), 1) := by decide +kernel
theorem d_Mo_lapses_51 : decode b_Mo_lapses 51 = .ok (.invokevirtual 183, 3) := by decide +kernel
theorem d_Mo_lapses_54 : decode b_Mo_lapses 54 = .ok (.invokevirtual 192, 3) := by decide +kernel
theorem d_Mo_lapses_57 : decode b_Mo_lapses 57 = .ok (.ireturn, 1) := by decide +kernel
theorem d_Mo_isThought_0 : decode b_Mo_isThought 0 = .ok (.iload_n 0, 1) := by decide +kernel
theorem d_Mo_isThought_1 : decode b_Mo_isThought 1 = .ok (.iconst 0, 1) := by decide +kernel
theorem d_Mo_isThought_2 : decode b_Mo_isThought 2 = .ok (.bipush 40, 2) := by decide +kernel
theorem d_Mo_isThought_4 : decode b_Mo_isThought 4 = .ok (.invokestatic 70, 3) := by decide +kernel
theorem d_Mo_isThought_7 : decode b_Mo_isThought 7 = .ok (.ireturn, 1) := by decide +kernel
theorem d_Mo_calmest_0 : decode b_Mo_calmest 0 = .ok (.aload_n 0, 1) := by decide +kernel
theorem d_Mo_calmest_1 : decode b_Mo_calmest 1 = .ok (.getfield 9, 3) := by decide +kernel
theorem d_Mo_calmest_4 : decode b_Mo_calmest 4 = .ok (.iload_n 1, 1) := by decide +kernel
theorem d_Mo_calmest_5 : decode b_Mo_calmest 5 = .ok (.iaload, 1) := by decide +kernel
theorem d_Mo_calmest_6 : decode b_Mo_calmest 6 = .ok (.istore 4, 2) := by decide +kernel
theorem d_Mo_calmest_8 : decode b_Mo_calmest 8 = .ok (.iconst 0, 1) := by decide +kernel
theorem d_Mo_calmest_9 : decode b_Mo_calmest 9 = .ok (.istore 5, 2) := by decide +kernel
theorem d_Mo_calmest_11 : decode b_Mo_calmest 11 = .ok (.bipush 100, 2) := by decide +kernel
theorem d_Mo_calmest_13 : decode b_Mo_calmest 13 = .ok (.istore 6, 2) := by decide +kernel
theorem d_Mo_calmest_15 : decode b_Mo_calmest 15 = .ok (.iconst 0, 1) := by decide +kernel
theorem d_Mo_calmest_16 : decode b_Mo_calmest 16 = .ok (.istore 7, 2) := by decide +kernel
theorem d_Mo_calmest_18 : decode b_Mo_calmest 18 = .ok (.iload 7, 2) := by decide +kernel
theorem d_Mo_calmest_20 : decode b_Mo_calmest 20 = .ok (.iload_n 2, 1) := by decide +kernel
theorem d_Mo_calmest_21 : decode b_Mo_calmest 21 = .ok (.if_icmp .ge 40, 3) := by decide +kernel
theorem d_Mo_calmest_24 : decode b_Mo_calmest 24 = .ok (.aload_n 0, 1) := by decide +kernel
theorem d_Mo_calmest_25 : decode b_Mo_calmest 25 = .ok (.getfield 9, 3) := by decide +kernel
theorem d_Mo_calmest_28 : decode b_Mo_calmest 28 = .ok (.iload_n 1, 1) := by decide +kernel
theorem d_Mo_calmest_29 : decode b_Mo_calmest 29 = .ok (.iload 7, 2) := by decide +kernel
theorem d_Mo_calmest_31 : decode b_Mo_calmest 31 = .ok (.iastore, 1) := by decide +kernel
theorem d_Mo_calmest_32 : decode b_Mo_calmest 32 = .ok (.aload_n 0, 1) := by decide +kernel
theorem d_Mo_calmest_33 : decode b_Mo_calmest 33 = .ok (.iconst 3, 1) := by decide +kernel
theorem d_Mo_calmest_34 : decode b_Mo_calmest 34 = .ok (.iload_n 3, 1) := by decide +kernel
theorem d_Mo_calmest_35 : decode b_Mo_calmest 35 = .ok (.invokevirtual 186, 3) := by decide +kernel
theorem d_Mo_calmest_38 : decode b_Mo_calmest 38 = .ok (.istore 8, 2) := by decide +kernel
theorem d_Mo_calmest_40 : decode b_Mo_calmest 40 = .ok (.iload 8, 2) := by decide +kernel
theorem d_Mo_calmest_42 : decode b_Mo_calmest 42 = .ok (.iload 6, 2) := by decide +kernel
theorem d_Mo_calmest_44 : decode b_Mo_calmest 44 = .ok (.if_icmp .ge 11, 3) := by decide +kernel
theorem d_Mo_calmest_47 : decode b_Mo_calmest 47 = .ok (.iload 7, 2) := by decide +kernel
theorem d_Mo_calmest_49 : decode b_Mo_calmest 49 = .ok (.istore 5, 2) := by decide +kernel
theorem d_Mo_calmest_51 : decode b_Mo_calmest 51 = .ok (.iload 8, 2) := by decide +kernel
theorem d_Mo_calmest_53 : decode b_Mo_calmest 53 = .ok (.istore 6, 2) := by decide +kernel
theorem d_Mo_calmest_55 : decode b_Mo_calmest 55 = .ok (.iinc 7 1, 3) := by decide +kernel
theorem d_Mo_calmest_58 : decode b_Mo_calmest 58 = .ok (.goto (-40), 3) := by decide +kernel
theorem d_Mo_calmest_61 : decode b_Mo_calmest 61 = .ok (.aload_n 0, 1) := by decide +kernel
theorem d_Mo_calmest_62 : decode b_Mo_calmest 62 = .ok (.getfield 9, 3) := by decide +kernel
theorem d_Mo_calmest_65 : decode b_Mo_calmest 65 = .ok (.iload_n 1, 1) := by decide +kernel
theorem d_Mo_calmest_66 : decode b_Mo_calmest 66 = .ok (.iload 4, 2) := by decide +kernel
theorem d_Mo_calmest_68 : decode b_Mo_calmest 68 = .ok (.iastore, 1) := by decide +kernel
theorem d_Mo_calmest_69 : decode b_Mo_calmest 69 = .ok (.iload 5, 2) := by decide +kernel
theorem d_Mo_calmest_71 : decode b_Mo_calmest 71 = .ok (.ireturn, 1) := by decide +kernel
theorem d_Mo_placeFor_0 : decode b_Mo_placeFor 0 = .ok (.iload_n 1, 1) := by decide +kernel
theorem d_Mo_placeFor_1 : decode b_Mo_placeFor 1 = .ok (.invokestatic 82, 3) := by decide +kernel
theorem d_Mo_placeFor_4 : decode b_Mo_placeFor 4 = .ok (.ifCond .eq 23, 3) := by decide +kernel
theorem d_Mo_placeFor_7 : decode b_Mo_placeFor 7 = .ok (.iload_n 2, 1) := by decide +kernel
theorem d_Mo_placeFor_8 : decode b_Mo_placeFor 8 = .ok (.invokestatic 195, 3) := by decide +kernel
theorem d_Mo_placeFor_11 : decode b_Mo_placeFor 11 = .ok (.ifCond .eq 16, 3) := by decide +kernel
theorem d_Mo_placeFor_14 : decode b_Mo_placeFor 14 = .ok (.aload_n 0, 1) := by decide +kernel
theorem d_Mo_placeFor_15 : decode b_Mo_placeFor 15 = .ok (.iconst 4, 1) := by decide +kernel
theorem d_Mo_placeFor_16 : decode b_Mo_placeFor 16 = .ok (.iload_n 1, 1) := by decide +kernel
theorem d_Mo_placeFor_17 : decode b_Mo_placeFor 17 = .ok (.iadd, 1) := by decide +kernel
theorem d_Mo_placeFor_18 : decode b_Mo_placeFor 18 = .ok (.bipush 16, 2) := by decide +kernel
theorem d_Mo_placeFor_20 : decode b_Mo_placeFor 20 = .ok (.iload_n 2, 1) := by decide +kernel
theorem d_Mo_placeFor_21 : decode b_Mo_placeFor 21 = .ok (.invokevirtual 198, 3) := by decide +kernel
theorem d_Mo_placeFor_24 : decode b_Mo_placeFor 24 = .ok (.goto 9, 3) := by decide +kernel
theorem d_Mo_placeFor_27 : decode b_Mo_placeFor 27 = .ok (.aload_n 0, 1) := by decide +kernel
theorem d_Mo_placeFor_28 : decode b_Mo_placeFor 28 = .ok (.ldc 60, 2) := by decide +kernel
theorem d_Mo_placeFor_30 : decode b_Mo_placeFor 30 = .ok (.invokevirtual 66, 3) := by decide +kernel
theorem d_Mo_placeFor_33 : decode b_Mo_placeFor 33 = .ok (.ireturn, 1) := by decide +kernel
theorem d_Mo_kindFor_0 : decode b_Mo_kindFor 0 = .ok (.aload_n 0, 1) := by decide +kernel
theorem d_Mo_kindFor_1 : decode b_Mo_kindFor 1 = .ok (.iload_n 1, 1) := by decide +kernel
theorem d_Mo_kindFor_2 : decode b_Mo_kindFor 2 = .ok (.invokevirtual 121, 3) := by decide +kernel
theorem d_Mo_kindFor_5 : decode b_Mo_kindFor 5 = .ok (.ifCond .eq 25, 3) := by decide +kernel
theorem d_Mo_kindFor_8 : decode b_Mo_kindFor 8 = .ok (.iload_n 2, 1) := by decide +kernel
theorem d_Mo_kindFor_9 : decode b_Mo_kindFor 9 = .ok (.invokestatic 195, 3) := by decide +kernel
theorem d_Mo_kindFor_12 : decode b_Mo_kindFor 12 = .ok (.ifCond .eq 18, 3) := by decide +kernel
theorem d_Mo_kindFor_15 : decode b_Mo_kindFor 15 = .ok (.aload_n 0, 1) := by decide +kernel
theorem d_Mo_kindFor_16 : decode b_Mo_kindFor 16 = .ok (.iload_n 1, 1) := by decide +kernel
theorem d_Mo_kindFor_17 : decode b_Mo_kindFor 17 = .ok (.iconst 0, 1) := by decide +kernel
theorem d_Mo_kindFor_18 : decode b_Mo_kindFor 18 = .ok (.invokestatic 88, 3) := by decide +kernel
theorem d_Mo_kindFor_21 : decode b_Mo_kindFor 21 = .ok (.bipush 7, 2) := by decide +kernel
theorem d_Mo_kindFor_23 : decode b_Mo_kindFor 23 = .ok (.iload_n 2, 1) := by decide +kernel
theorem d_Mo_kindFor_24 : decode b_Mo_kindFor 24 = .ok (.invokevirtual 198, 3) := by decide +kernel
theorem d_Mo_kindFor_27 : decode b_Mo_kindFor 27 = .ok (.goto 9, 3) := by decide +kernel
theorem d_Mo_kindFor_30 : decode b_Mo_kindFor 30 = .ok (.aload_n 0, 1) := by decide +kernel
theorem d_Mo_kindFor_31 : decode b_Mo_kindFor 31 = .ok (.ldc 60, 2) := by decide +kernel
theorem d_Mo_kindFor_33 : decode b_Mo_kindFor 33 = .ok (.invokevirtual 66, 3) := by decide +kernel
theorem d_Mo_kindFor_36 : decode b_Mo_kindFor 36 = .ok (.ireturn, 1) := by decide +kernel
theorem d_Mo_firstFor_0 : decode b_Mo_firstFor 0 = .ok (.aload_n 0, 1) := by decide +kernel
theorem d_Mo_firstFor_1 : decode b_Mo_firstFor 1 = .ok (.getfield 9, 3) := by decide +kernel
theorem d_Mo_firstFor_4 : decode b_Mo_firstFor 4 = .ok (.iload_n 1, 1) := by decide +kernel
theorem d_Mo_firstFor_5 : decode b_Mo_firstFor 5 = .ok (.iaload, 1) := by decide +kernel
theorem d_Mo_firstFor_6 : decode b_Mo_firstFor 6 = .ok (.istore 7, 2) := by decide +kernel
theorem d_Mo_firstFor_8 : decode b_Mo_firstFor 8 = .ok (.iload_n 2, 1) := by decide +kernel
theorem d_Mo_firstFor_9 : decode b_Mo_firstFor 9 = .ok (.iload_n 3, 1) := by decide +kernel
theorem d_Mo_firstFor_10 : decode b_Mo_firstFor 10 = .ok (.if_icmp .ge 7, 3) := by decide +kernel
theorem d_Mo_firstFor_13 : decode b_Mo_firstFor 13 = .ok (.iconst 1, 1) := by decide +kernel
theorem d_Mo_firstFor_14 : decode b_Mo_firstFor 14 = .ok (.goto 4, 3) := by decide +kernel
theorem d_Mo_firstFor_17 : decode b_Mo_firstFor 17 = .ok (.iconst (-1), 1) := by decide +kernel
theorem d_Mo_firstFor_18 : decode b_Mo_firstFor 18 = .ok (.istore 8, 2) := by decide +kernel
theorem d_Mo_firstFor_20 : decode b_Mo_firstFor 20 = .ok (.iconst (-1), 1) := by decide +kernel
theorem d_Mo_firstFor_21 : decode b_Mo_firstFor 21 = .ok (.istore 9, 2) := by decide +kernel
theorem d_Mo_firstFor_23 : decode b_Mo_firstFor 23 = .ok (.iload_n 2, 1) := by decide +kernel
theorem d_Mo_firstFor_24 : decode b_Mo_firstFor 24 = .ok (.istore 10, 2) := by decide +kernel
theorem d_Mo_firstFor_26 : decode b_Mo_firstFor 26 = .ok (.iload 10, 2) := by decide +kernel
theorem d_Mo_firstFor_28 : decode b_Mo_firstFor 28 = .ok (.iload_n 3, 1) := by decide +kernel
theorem d_Mo_firstFor_29 : decode b_Mo_firstFor 29 = .ok (.iload 8, 2) := by decide +kernel
theorem d_Mo_firstFor_31 : decode b_Mo_firstFor 31 = .ok (.iadd, 1) := by decide +kernel
theorem d_Mo_firstFor_32 : decode b_Mo_firstFor 32 = .ok (.if_icmp .eq 51, 3) := by decide +kernel
theorem d_Mo_firstFor_35 : decode b_Mo_firstFor 35 = .ok (.iload 9, 2) := by decide +kernel
theorem d_Mo_firstFor_37 : decode b_Mo_firstFor 37 = .ok (.ifCond .ge 46, 3) := by decide +kernel
theorem d_Mo_firstFor_40 : decode b_Mo_firstFor 40 = .ok (.aload_n 0, 1) := by decide +kernel
theorem d_Mo_firstFor_41 : decode b_Mo_firstFor 41 = .ok (.getfield 9, 3) := by decide +kernel
theorem d_Mo_firstFor_44 : decode b_Mo_firstFor 44 = .ok (.iload_n 1, 1) := by decide +kernel
theorem d_Mo_firstFor_45 : decode b_Mo_firstFor 45 = .ok (.iload 10, 2) := by decide +kernel
theorem d_Mo_firstFor_47 : decode b_Mo_firstFor 47 = .ok (.iastore, 1) := by decide +kernel
theorem d_Mo_firstFor_48 : decode b_Mo_firstFor 48 = .ok (.aload_n 0, 1) := by decide +kernel
theorem d_Mo_firstFor_49 : decode b_Mo_firstFor 49 = .ok (.iload 4, 2) := by decide +kernel
theorem d_Mo_firstFor_51 : decode b_Mo_firstFor 51 = .ok (.iconst 5, 1) := by decide +kernel
theorem d_Mo_firstFor_52 : decode b_Mo_firstFor 52 = .ok (.invokestatic 88, 3) := by decide +kernel
theorem d_Mo_firstFor_55 : decode b_Mo_firstFor 55 = .ok (.iload 6, 2) := by decide +kernel
theorem d_Mo_firstFor_57 : decode b_Mo_firstFor 57 = .ok (.invokevirtual 186, 3) := by decide +kernel
theorem d_Mo_firstFor_60 : decode b_Mo_firstFor 60 = .ok (.iload 5, 2) := by decide +kernel
theorem d_Mo_firstFor_62 : decode b_Mo_firstFor 62 = .ok (.if_icmp .lt 8, 3) := by decide +kernel
theorem d_Mo_firstFor_65 : decode b_Mo_firstFor 65 = .ok (.iload 10, 2) := by decide +kernel
theorem d_Mo_firstFor_67 : decode b_Mo_firstFor 67 = .ok (.goto 4, 3) := by decide +kernel
theorem d_Mo_firstFor_70 : decode b_Mo_firstFor 70 = .ok (.iconst (-1), 1) := by decide +kernel
theorem d_Mo_firstFor_71 : decode b_Mo_firstFor 71 = .ok (.istore 9, 2) := by decide +kernel
theorem d_Mo_firstFor_73 : decode b_Mo_firstFor 73 = .ok (.iload 10, 2) := by decide +kernel
theorem d_Mo_firstFor_75 : decode b_Mo_firstFor 75 = .ok (.iload 8, 2) := by decide +kernel
theorem d_Mo_firstFor_77 : decode b_Mo_firstFor 77 = .ok (.iadd, 1) := by decide +kernel
theorem d_Mo_firstFor_78 : decode b_Mo_firstFor 78 = .ok (.istore 10, 2) := by decide +kernel
theorem d_Mo_firstFor_80 : decode b_Mo_firstFor 80 = .ok (.goto (-54), 3) := by decide +kernel
theorem d_Mo_firstFor_83 : decode b_Mo_firstFor 83 = .ok (.aload_n 0, 1) := by decide +kernel
theorem d_Mo_firstFor_84 : decode b_Mo_firstFor 84 = .ok (.getfield 9, 3) := by decide +kernel
theorem d_Mo_firstFor_87 : decode b_Mo_firstFor 87 = .ok (.iload_n 1, 1) := by decide +kernel
theorem d_Mo_firstFor_88 : decode b_Mo_firstFor 88 = .ok (.iload 7, 2) := by decide +kernel
theorem d_Mo_firstFor_90 : decode b_Mo_firstFor 90 = .ok (.iastore, 1) := by decide +kernel
theorem d_Mo_firstFor_91 : decode b_Mo_firstFor 91 = .ok (.iload 9, 2) := by decide +kernel
theorem d_Mo_firstFor_93 : decode b_Mo_firstFor 93 = .ok (.ireturn, 1) := by decide +kernel
theorem d_Mo_seasonFor_0 : decode b_Mo_seasonFor 0 = .ok (.aload_n 0, 1) := by decide +kernel
theorem d_Mo_seasonFor_1 : decode b_Mo_seasonFor 1 = .ok (.iload_n 1, 1) := by decide +kernel
theorem d_Mo_seasonFor_2 : decode b_Mo_seasonFor 2 = .ok (.invokevirtual 121, 3) := by decide +kernel
theorem d_Mo_seasonFor_5 : decode b_Mo_seasonFor 5 = .ok (.ifCond .eq 25, 3) := by decide +kernel
theorem d_Mo_seasonFor_8 : decode b_Mo_seasonFor 8 = .ok (.iload_n 2, 1) := by decide +kernel
theorem d_Mo_seasonFor_9 : decode b_Mo_seasonFor 9 = .ok (.iconst 0, 1) := by decide +kernel
theorem d_Mo_seasonFor_10 : decode b_Mo_seasonFor 10 = .ok (.sipush 9999, 3) := by decide +kernel
theorem d_Mo_seasonFor_13 : decode b_Mo_seasonFor 13 = .ok (.invokestatic 70, 3) := by decide +kernel
theorem d_Mo_seasonFor_16 : decode b_Mo_seasonFor 16 = .ok (.ifCond .eq 14, 3) := by decide +kernel
theorem d_Mo_seasonFor_19 : decode b_Mo_seasonFor 19 = .ok (.iload_n 3, 1) := by decide +kernel
theorem d_Mo_seasonFor_20 : decode b_Mo_seasonFor 20 = .ok (.invokestatic 195, 3) := by decide +kernel
theorem d_Mo_seasonFor_23 : decode b_Mo_seasonFor 23 = .ok (.ifCond .eq 7, 3) := by decide +kernel
theorem d_Mo_seasonFor_26 : decode b_Mo_seasonFor 26 = .ok (.iconst 1, 1) := by decide +kernel
theorem d_Mo_seasonFor_27 : decode b_Mo_seasonFor 27 = .ok (.goto 4, 3) := by decide +kernel
theorem d_Mo_seasonFor_30 : decode b_Mo_seasonFor 30 = .ok (.iconst 0, 1) := by decide +kernel
theorem d_Mo_seasonFor_31 : decode b_Mo_seasonFor 31 = .ok (.istore 4, 2) := by decide +kernel
theorem d_Mo_seasonFor_33 : decode b_Mo_seasonFor 33 = .ok (.iload 4, 2) := by decide +kernel
theorem d_Mo_seasonFor_35 : decode b_Mo_seasonFor 35 = .ok (.ifCond .eq 25, 3) := by decide +kernel
theorem d_Mo_seasonFor_38 : decode b_Mo_seasonFor 38 = .ok (.aload_n 0, 1) := by decide +kernel
theorem d_Mo_seasonFor_39 : decode b_Mo_seasonFor 39 = .ok (.aload_n 0, 1) := by decide +kernel
theorem d_Mo_seasonFor_40 : decode b_Mo_seasonFor 40 = .ok (.iload_n 1, 1) := by decide +kernel
theorem d_Mo_seasonFor_41 : decode b_Mo_seasonFor 41 = .ok (.iconst 3, 1) := by decide +kernel
theorem d_Mo_seasonFor_42 : decode b_Mo_seasonFor 42 = .ok (.invokestatic 88, 3) := by decide +kernel
theorem d_Mo_seasonFor_45 : decode b_Mo_seasonFor 45 = .ok (.iconst 0, 1) := by decide +kernel
theorem d_Mo_seasonFor_46 : decode b_Mo_seasonFor 46 = .ok (.bipush 99, 2) := by decide +kernel
theorem d_Mo_seasonFor_48 : decode b_Mo_seasonFor 48 = .ok (.iload_n 1, 1) := by decide +kernel
theorem d_Mo_seasonFor_49 : decode b_Mo_seasonFor 49 = .ok (.iload_n 2, 1) := by decide +kernel
theorem d_Mo_seasonFor_50 : decode b_Mo_seasonFor 50 = .ok (.iload_n 3, 1) := by decide +kernel
theorem d_Mo_seasonFor_51 : decode b_Mo_seasonFor 51 = .ok (.invokevirtual 201, 3) := by decide +kernel
theorem d_Mo_seasonFor_54 : decode b_Mo_seasonFor 54 = .ok (.invokevirtual 192, 3) := by decide +kernel
theorem d_Mo_seasonFor_57 : decode b_Mo_seasonFor 57 = .ok (.goto 9, 3) := by decide +kernel
theorem d_Mo_seasonFor_60 : decode b_Mo_seasonFor 60 = .ok (.aload_n 0, 1) := by decide +kernel
theorem d_Mo_seasonFor_61 : decode b_Mo_seasonFor 61 = .ok (.ldc 60, 2) := by decide +kernel
theorem d_Mo_seasonFor_63 : decode b_Mo_seasonFor 63 = .ok (.invokevirtual 66, 3) := by decide +kernel
theorem d_Mo_seasonFor_66 : decode b_Mo_seasonFor 66 = .ok (.ireturn, 1) := by decide +kernel
theorem d_Mo_bagsFor_0 : decode b_Mo_bagsFor 0 = .ok (.aload_n 0, 1) := by decide +kernel
theorem d_Mo_bagsFor_1 : decode b_Mo_bagsFor 1 = .ok (.iload_n 1, 1) := by decide +kernel
theorem d_Mo_bagsFor_2 : decode b_Mo_bagsFor 2 = .ok (.invokevirtual 121, 3) := by decide +kernel
theorem d_Mo_bagsFor_5 : decode b_Mo_bagsFor 5 = .ok (.ifCond .eq 39, 3) := by decide +kernel
theorem d_Mo_bagsFor_8 : decode b_Mo_bagsFor 8 = .ok (.iload_n 2, 1) := by decide +kernel
theorem d_Mo_bagsFor_9 : decode b_Mo_bagsFor 9 = .ok (.invokestatic 195, 3) := by decide +kernel
theorem d_Mo_bagsFor_12 : decode b_Mo_bagsFor 12 = .ok (.ifCond .eq 32, 3) := by decide +kernel
theorem d_Mo_bagsFor_15 : decode b_Mo_bagsFor 15 = .ok (.aload_n 0, 1) := by decide +kernel
theorem d_Mo_bagsFor_16 : decode b_Mo_bagsFor 16 = .ok (.aload_n 0, 1) := by decide +kernel
theorem d_Mo_bagsFor_17 : decode b_Mo_bagsFor 17 = .ok (.iload_n 1, 1) := by decide +kernel
theorem d_Mo_bagsFor_18 : decode b_Mo_bagsFor 18 = .ok (.iconst 4, 1) := by decide +kernel
theorem d_Mo_bagsFor_19 : decode b_Mo_bagsFor 19 = .ok (.invokestatic 88, 3) := by decide +kernel
theorem d_Mo_bagsFor_22 : decode b_Mo_bagsFor 22 = .ok (.bipush 9, 2) := by decide +kernel
theorem d_Mo_bagsFor_24 : decode b_Mo_bagsFor 24 = .ok (.iconst 0, 1) := by decide +kernel
theorem d_Mo_bagsFor_25 : decode b_Mo_bagsFor 25 = .ok (.iload_n 1, 1) := by decide +kernel
theorem d_Mo_bagsFor_26 : decode b_Mo_bagsFor 26 = .ok (.aload_n 0, 1) := by decide +kernel
theorem d_Mo_bagsFor_27 : decode b_Mo_bagsFor 27 = .ok (.iload_n 1, 1) := by decide +kernel
theorem d_Mo_bagsFor_28 : decode b_Mo_bagsFor 28 = .ok (.iconst 5, 1) := by decide +kernel
theorem d_Mo_bagsFor_29 : decode b_Mo_bagsFor 29 = .ok (.invokevirtual 101, 3) := by decide +kernel
theorem d_Mo_bagsFor_32 : decode b_Mo_bagsFor 32 = .ok (.iconst 1, 1) := by decide +kernel
theorem d_Mo_bagsFor_33 : decode b_Mo_bagsFor 33 = .ok (.iadd, 1) := by decide +kernel
theorem d_Mo_bagsFor_34 : decode b_Mo_bagsFor 34 = .ok (.iload_n 2, 1) := by decide +kernel
theorem d_Mo_bagsFor_35 : decode b_Mo_bagsFor 35 = .ok (.invokevirtual 201, 3) := by decide +kernel
theorem d_Mo_bagsFor_38 : decode b_Mo_bagsFor 38 = .ok (.invokevirtual 192, 3) := by decide +kernel
theorem d_Mo_bagsFor_41 : decode b_Mo_bagsFor 41 = .ok (.goto 9, 3) := by decide +kernel
theorem d_Mo_bagsFor_44 : decode b_Mo_bagsFor 44 = .ok (.aload_n 0, 1) := by decide +kernel
theorem d_Mo_bagsFor_45 : decode b_Mo_bagsFor 45 = .ok (.ldc 60, 2) := by decide +kernel
theorem d_Mo_bagsFor_47 : decode b_Mo_bagsFor 47 = .ok (.invokevirtual 66, 3) := by decide +kernel
theorem d_Mo_bagsFor_50 : decode b_Mo_bagsFor 50 = .ok (.ireturn, 1) := by decide +kernel
theorem d_Mo_nobodyMeets_0 : decode b_Mo_nobodyMeets 0 = .ok (.aload_n 0, 1) := by decide +kernel
theorem d_Mo_nobodyMeets_1 : decode b_Mo_nobodyMeets 1 = .ok (.invokevirtual 165, 3) := by decide +kernel
theorem d_Mo_nobodyMeets_4 : decode b_Mo_nobodyMeets 4 = .ok (.istore_n 3, 1) := by decide +kernel
theorem d_Mo_nobodyMeets_5 : decode b_Mo_nobodyMeets 5 = .ok (.aload_n 0, 1) := by decide +kernel
theorem d_Mo_nobodyMeets_6 : decode b_Mo_nobodyMeets 6 = .ok (.getfield 9, 3) := by decide +kernel
theorem d_Mo_nobodyMeets_9 : decode b_Mo_nobodyMeets 9 = .ok (.aload_n 0, 1) := by decide +kernel
theorem d_Mo_nobodyMeets_10 : decode b_Mo_nobodyMeets 10 = .ok (.getfield 16, 3) := by decide +kernel
theorem d_Mo_nobodyMeets_13 : decode b_Mo_nobodyMeets 13 = .ok (.invokestatic 61, 3) := by decide +kernel
theorem d_Mo_nobodyMeets_16 : decode b_Mo_nobodyMeets 16 = .ok (.iconst 0, 1) := by decide +kernel
theorem d_Mo_nobodyMeets_17 : decode b_Mo_nobodyMeets 17 = .ok (.istore 4, 2) := by decide +kernel
theorem d_Mo_nobodyMeets_19 : decode b_Mo_nobodyMeets 19 = .ok (.iload 4, 2) := by decide +kernel
theorem d_Mo_nobodyMeets_21 : decode b_Mo_nobodyMeets 21 = .ok (.aload_n 0, 1) := by decide +kernel
theorem d_Mo_nobodyMeets_22 : decode b_Mo_nobodyMeets 22 = .ok (.getfield 9, 3) := by decide +kernel
theorem d_Mo_nobodyMeets_25 : decode b_Mo_nobodyMeets 25 = .ok (.iconst 1, 1) := by decide +kernel
theorem d_Mo_nobodyMeets_26 : decode b_Mo_nobodyMeets 26 = .ok (.iaload, 1) := by decide +kernel
theorem d_Mo_nobodyMeets_27 : decode b_Mo_nobodyMeets 27 = .ok (.if_icmp .ge 31, 3) := by decide +kernel
theorem d_Mo_nobodyMeets_30 : decode b_Mo_nobodyMeets 30 = .ok (.iload_n 1, 1) := by decide +kernel
theorem d_Mo_nobodyMeets_31 : decode b_Mo_nobodyMeets 31 = .ok (.iload 4, 2) := by decide +kernel
theorem d_Mo_nobodyMeets_33 : decode b_Mo_nobodyMeets 33 = .ok (.ishr, 1) := by decide +kernel
theorem d_Mo_nobodyMeets_34 : decode b_Mo_nobodyMeets 34 = .ok (.iconst 1, 1) := by decide +kernel
theorem d_Mo_nobodyMeets_35 : decode b_Mo_nobodyMeets 35 = .ok (.iand, 1) := by decide +kernel
theorem d_Mo_nobodyMeets_36 : decode b_Mo_nobodyMeets 36 = .ok (.iconst 1, 1) := by decide +kernel
theorem d_Mo_nobodyMeets_37 : decode b_Mo_nobodyMeets 37 = .ok (.if_icmp .ne 15, 3) := by decide +kernel
theorem d_Mo_nobodyMeets_40 : decode b_Mo_nobodyMeets 40 = .ok (.aload_n 0, 1) := by decide +kernel
theorem d_Mo_nobodyMeets_41 : decode b_Mo_nobodyMeets 41 = .ok (.getfield 9, 3) := by decide +kernel
theorem d_Mo_nobodyMeets_44 : decode b_Mo_nobodyMeets 44 = .ok (.iload 4, 2) := by decide +kernel
theorem d_Mo_nobodyMeets_46 : decode b_Mo_nobodyMeets 46 = .ok (.iconst 3, 1) := by decide +kernel
theorem d_Mo_nobodyMeets_47 : decode b_Mo_nobodyMeets 47 = .ok (.invokestatic 88, 3) := by decide +kernel
theorem d_Mo_nobodyMeets_50 : decode b_Mo_nobodyMeets 50 = .ok (.iconst 0, 1) := by decide +kernel
theorem d_Mo_nobodyMeets_51 : decode b_Mo_nobodyMeets 51 = .ok (.iastore, 1) := by decide +kernel
theorem d_Mo_nobodyMeets_52 : decode b_Mo_nobodyMeets 52 = .ok (.iinc 4 1, 3) := by decide +kernel
theorem d_Mo_nobodyMeets_55 : decode b_Mo_nobodyMeets 55 = .ok (.goto (-36), 3) := by decide +kernel
theorem d_Mo_nobodyMeets_58 : decode b_Mo_nobodyMeets 58 = .ok (.aload_n 0, 1) := by decide +kernel
theorem d_Mo_nobodyMeets_59 : decode b_Mo_nobodyMeets 59 = .ok (.iload_n 2, 1) := by decide +kernel
theorem d_Mo_nobodyMeets_60 : decode b_Mo_nobodyMeets 60 = .ok (.invokevirtual 161, 3) := by decide +kernel
theorem d_Mo_nobodyMeets_63 : decode b_Mo_nobodyMeets 63 = .ok (.aload_n 0, 1) := by decide +kernel
theorem d_Mo_nobodyMeets_64 : decode b_Mo_nobodyMeets 64 = .ok (.invokevirtual 165, 3) := by decide +kernel
theorem d_Mo_nobodyMeets_67 : decode b_Mo_nobodyMeets 67 = .ok (.iload_n 3, 1) := by decide +kernel
theorem d_Mo_nobodyMeets_68 : decode b_Mo_nobodyMeets 68 = .ok (.if_icmp .ne 7, 3) := by decide +kernel
theorem d_Mo_nobodyMeets_71 : decode b_Mo_nobodyMeets 71 = .ok (.iconst 1, 1) := by decide +kernel
theorem d_Mo_nobodyMeets_72 : decode b_Mo_nobodyMeets 72 = .ok (.goto 4, 3) := by decide +kernel
theorem d_Mo_nobodyMeets_75 : decode b_Mo_nobodyMeets 75 = .ok (.iconst 0, 1) := by decide +kernel
theorem d_Mo_nobodyMeets_76 : decode b_Mo_nobodyMeets 76 = .ok (.istore 4, 2) := by decide +kernel
theorem d_Mo_nobodyMeets_78 : decode b_Mo_nobodyMeets 78 = .ok (.aload_n 0, 1) := by decide +kernel
theorem d_Mo_nobodyMeets_79 : decode b_Mo_nobodyMeets 79 = .ok (.getfield 16, 3) := by decide +kernel
theorem d_Mo_nobodyMeets_82 : decode b_Mo_nobodyMeets 82 = .ok (.aload_n 0, 1) := by decide +kernel
theorem d_Mo_nobodyMeets_83 : decode b_Mo_nobodyMeets 83 = .ok (.getfield 9, 3) := by decide +kernel
theorem d_Mo_nobodyMeets_86 : decode b_Mo_nobodyMeets 86 = .ok (.invokestatic 61, 3) := by decide +kernel
theorem d_Mo_nobodyMeets_89 : decode b_Mo_nobodyMeets 89 = .ok (.iload 4, 2) := by decide +kernel
theorem d_Mo_nobodyMeets_91 : decode b_Mo_nobodyMeets 91 = .ok (.ireturn, 1) := by decide +kernel
theorem d_Mo_leaveOut_0 : decode b_Mo_leaveOut 0 = .ok (.iload_n 1, 1) := by decide +kernel
theorem d_Mo_leaveOut_1 : decode b_Mo_leaveOut 1 = .ok (.iconst 0, 1) := by decide +kernel
theorem d_Mo_leaveOut_2 : decode b_Mo_leaveOut 2 = .ok (.bipush 20, 2) := by decide +kernel
theorem d_Mo_leaveOut_4 : decode b_Mo_leaveOut 4 = .ok (.invokestatic 70, 3) := by decide +kernel
theorem d_Mo_leaveOut_7 : decode b_Mo_leaveOut 7 = .ok (.ifCond .ne 10, 3) := by decide +kernel
theorem d_Mo_leaveOut_10 : decode b_Mo_leaveOut 10 = .ok (.aload_n 0, 1) := by decide +kernel
theorem d_Mo_leaveOut_11 : decode b_Mo_leaveOut 11 = .ok (.ldc 60, 2) := by decide +kernel
theorem d_Mo_leaveOut_13 : decode b_Mo_leaveOut 13 = .ok (.invokevirtual 66, 3) := by decide +kernel
theorem d_Mo_leaveOut_16 : decode b_Mo_leaveOut 16 = .ok (.ireturn, 1) := by decide +kernel
theorem d_Mo_leaveOut_17 : decode b_Mo_leaveOut 17 = .ok (.iconst (-1), 1) := by decide +kernel
theorem d_Mo_leaveOut_18 : decode b_Mo_leaveOut 18 = .ok (.istore_n 2, 1) := by decide +kernel
theorem d_Mo_leaveOut_19 : decode b_Mo_leaveOut 19 = .ok (.iconst 1, 1) := by decide +kernel
theorem d_Mo_leaveOut_20 : decode b_Mo_leaveOut 20 = .ok (.aload_n 0, 1) := by decide +kernel
theorem d_Mo_leaveOut_21 : decode b_Mo_leaveOut 21 = .ok (.getfield 9, 3) := by decide +kernel
theorem d_Mo_leaveOut_24 : decode b_Mo_leaveOut 24 = .ok (.iconst 1, 1) := by decide +kernel
theorem d_Mo_leaveOut_25 : decode b_Mo_leaveOut 25 = .ok (.iaload, 1) := by decide +kernel
theorem d_Mo_leaveOut_26 : decode b_Mo_leaveOut 26 = .ok (.ishl, 1) := by decide +kernel
theorem d_Mo_leaveOut_27 : decode b_Mo_leaveOut 27 = .ok (.iconst 1, 1) := by decide +kernel
theorem d_Mo_leaveOut_28 : decode b_Mo_leaveOut 28 = .ok (.isub, 1) := by decide +kernel
theorem d_Mo_leaveOut_29 : decode b_Mo_leaveOut 29 = .ok (.istore_n 3, 1) := by decide +kernel
theorem d_Mo_leaveOut_30 : decode b_Mo_leaveOut 30 = .ok (.iload_n 3, 1) := by decide +kernel
theorem d_Mo_leaveOut_31 : decode b_Mo_leaveOut 31 = .ok (.ifCond .lt 39, 3) := by decide +kernel
theorem d_Mo_leaveOut_34 : decode b_Mo_leaveOut 34 = .ok (.iload_n 2, 1) := by decide +kernel
theorem d_Mo_leaveOut_35 : decode b_Mo_leaveOut 35 = .ok (.ifCond .lt 14, 3) := by decide +kernel
theorem d_Mo_leaveOut_38 : decode b_Mo_leaveOut 38 = .ok (.iload_n 3, 1) := by decide +kernel
theorem d_Mo_leaveOut_39 : decode b_Mo_leaveOut 39 = .ok (.invokestatic 205, 3) := by decide +kernel
theorem d_Mo_leaveOut_42 : decode b_Mo_leaveOut 42 = .ok (.iload_n 2, 1) := by decide +kernel
theorem d_Mo_leaveOut_43 : decode b_Mo_leaveOut 43 = .ok (.invokestatic 205, 3) := by decide +kernel
theorem d_Mo_leaveOut_46 : decode b_Mo_leaveOut 46 = .ok (.if_icmp .gt 16, 3) := by decide +kernel
theorem d_Mo_leaveOut_49 : decode b_Mo_leaveOut 49 = .ok (.aload_n 0, 1) := by decide +kernel
theorem d_Mo_leaveOut_50 : decode b_Mo_leaveOut 50 = .ok (.iload_n 3, 1) := by decide +kernel
theorem d_Mo_leaveOut_51 : decode b_Mo_leaveOut 51 = .ok (.iload_n 1, 1) := by decide +kernel
theorem d_Mo_leaveOut_52 : decode b_Mo_leaveOut 52 = .ok (.invokevirtual 208, 3) := by decide +kernel
theorem d_Mo_leaveOut_55 : decode b_Mo_leaveOut 55 = .ok (.ifCond .eq 7, 3) := by decide +kernel
theorem d_Mo_leaveOut_58 : decode b_Mo_leaveOut 58 = .ok (.iload_n 3, 1) := by decide +kernel
theorem d_Mo_leaveOut_59 : decode b_Mo_leaveOut 59 = .ok (.goto 4, 3) := by decide +kernel
theorem d_Mo_leaveOut_62 : decode b_Mo_leaveOut 62 = .ok (.iload_n 2, 1) := by decide +kernel
theorem d_Mo_leaveOut_63 : decode b_Mo_leaveOut 63 = .ok (.istore_n 2, 1) := by decide +kernel
theorem d_Mo_leaveOut_64 : decode b_Mo_leaveOut 64 = .ok (.iinc 3 (-1), 3) := by decide +kernel
theorem d_Mo_leaveOut_67 : decode b_Mo_leaveOut 67 = .ok (.goto (-37), 3) := by decide +kernel
theorem d_Mo_leaveOut_70 : decode b_Mo_leaveOut 70 = .ok (.aload_n 0, 1) := by decide +kernel
theorem d_Mo_leaveOut_71 : decode b_Mo_leaveOut 71 = .ok (.iload_n 2, 1) := by decide +kernel
theorem d_Mo_leaveOut_72 : decode b_Mo_leaveOut 72 = .ok (.invokevirtual 192, 3) := by decide +kernel
theorem d_Mo_leaveOut_75 : decode b_Mo_leaveOut 75 = .ok (.ireturn, 1) := by decide +kernel
theorem d_Mo_lacks_0 : decode b_Mo_lacks 0 = .ok (.iload_n 1, 1) := by decide +kernel
theorem d_Mo_lacks_1 : decode b_Mo_lacks 1 = .ok (.invokestatic 211, 3) := by decide +kernel
theorem d_Mo_lacks_4 : decode b_Mo_lacks 4 = .ok (.ifCond .ne 8, 3) := by decide +kernel
theorem d_Mo_lacks_7 : decode b_Mo_lacks 7 = .ok (.ldc 60, 2) := by decide +kernel
theorem d_Mo_lacks_9 : decode b_Mo_lacks 9 = .ok (.goto 27, 3) := by decide +kernel
theorem d_Mo_lacks_12 : decode b_Mo_lacks 12 = .ok (.aload_n 0, 1) := by decide +kernel
theorem d_Mo_lacks_13 : decode b_Mo_lacks 13 = .ok (.getfield 48, 3) := by decide +kernel
theorem d_Mo_lacks_16 : decode b_Mo_lacks 16 = .ok (.iload_n 1, 1) := by decide +kernel
theorem d_Mo_lacks_17 : decode b_Mo_lacks 17 = .ok (.iaload, 1) := by decide +kernel
theorem d_Mo_lacks_18 : decode b_Mo_lacks 18 = .ok (.ifCond .ne 8, 3) := by decide +kernel
theorem d_Mo_lacks_21 : decode b_Mo_lacks 21 = .ok (.ldc 214, 2) := by decide +kernel
theorem d_Mo_lacks_23 : decode b_Mo_lacks 23 = .ok (.goto 13, 3) := by decide +kernel
theorem d_Mo_lacks_26 : decode b_Mo_lacks 26 = .ok (.iload_n 2, 1) := by decide +kernel
theorem d_Mo_lacks_27 : decode b_Mo_lacks 27 = .ok (.ifCond .eq 7, 3) := by decide +kernel
theorem d_Mo_lacks_30 : decode b_Mo_lacks 30 = .ok (.iconst 0, 1) := by decide +kernel
theorem d_Mo_lacks_31 : decode b_Mo_lacks 31 = .ok (.goto 5, 3) := by decide +kernel
theorem d_Mo_lacks_34 : decode b_Mo_lacks 34 = .ok (.ldc 60, 2) := by decide +kernel
theorem d_Mo_lacks_36 : decode b_Mo_lacks 36 = .ok (.ireturn, 1) := by decide +kernel
theorem d_Mo_isSo_0 : decode b_Mo_isSo 0 = .ok (.aload_n 0, 1) := by decide +kernel
theorem d_Mo_isSo_1 : decode b_Mo_isSo 1 = .ok (.getfield 9, 3) := by decide +kernel
theorem d_Mo_isSo_4 : decode b_Mo_isSo 4 = .ok (.aload_n 0, 1) := by decide +kernel
theorem d_Mo_isSo_5 : decode b_Mo_isSo 5 = .ok (.getfield 16, 3) := by decide +kernel
theorem d_Mo_isSo_8 : decode b_Mo_isSo 8 = .ok (.invokestatic 61, 3) := by decide +kernel
theorem d_Mo_isSo_11 : decode b_Mo_isSo 11 = .ok (.iconst 1, 1) := by decide +kernel
theorem d_Mo_isSo_12 : decode b_Mo_isSo 12 = .ok (.istore_n 3, 1) := by decide +kernel
theorem d_Mo_isSo_13 : decode b_Mo_isSo 13 = .ok (.iconst 0, 1) := by decide +kernel
theorem d_Mo_isSo_14 : decode b_Mo_isSo 14 = .ok (.istore 4, 2) := by decide +kernel
theorem d_Mo_isSo_16 : decode b_Mo_isSo 16 = .ok (.iload 4, 2) := by decide +kernel
theorem d_Mo_isSo_18 : decode b_Mo_isSo 18 = .ok (.aload_n 0, 1) := by decide +kernel
theorem d_Mo_isSo_19 : decode b_Mo_isSo 19 = .ok (.getfield 51, 3) := by decide +kernel
theorem d_Mo_isSo_22 : decode b_Mo_isSo 22 = .ok (.iload_n 1, 1) := by decide +kernel
theorem d_Mo_isSo_23 : decode b_Mo_isSo 23 = .ok (.iaload, 1) := by decide +kernel
theorem d_Mo_isSo_24 : decode b_Mo_isSo 24 = .ok (.if_icmp .ge 54, 3) := by decide +kernel
theorem d_Mo_isSo_27 : decode b_Mo_isSo 27 = .ok (.iload_n 3, 1) := by decide +kernel
theorem d_Mo_isSo_28 : decode b_Mo_isSo 28 = .ok (.ifCond .eq 50, 3) := by decide +kernel
theorem d_Mo_isSo_31 : decode b_Mo_isSo 31 = .ok (.aload_n 0, 1) := by decide +kernel
theorem d_Mo_isSo_32 : decode b_Mo_isSo 32 = .ok (.getfield 54, 3) := by decide +kernel
theorem d_Mo_isSo_35 : decode b_Mo_isSo 35 = .ok (.bipush 40, 2) := by decide +kernel
