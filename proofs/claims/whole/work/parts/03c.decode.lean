theorem dX12_init_0 : decode cX12_init 0 = .ok (.aload_n 0, 1) := by decide +kernel
theorem dX12_init_1 : decode cX12_init 1 = .ok (.invokespecial 1, 3) := by decide +kernel
theorem dX12_init_4 : decode cX12_init 4 = .ok (.aload_n 0, 1) := by decide +kernel
theorem dX12_init_5 : decode cX12_init 5 = .ok (.sipush 340, 3) := by decide +kernel
theorem dX12_init_8 : decode cX12_init 8 = .ok (.newarray .int, 2) := by decide +kernel
theorem dX12_init_10 : decode cX12_init 10 = .ok (.putfield 7, 3) := by decide +kernel
theorem dX12_init_13 : decode cX12_init 13 = .ok (.aload_n 0, 1) := by decide +kernel
theorem dX12_init_14 : decode cX12_init 14 = .ok (.sipush 340, 3) := by decide +kernel
theorem dX12_init_17 : decode cX12_init 17 = .ok (.newarray .int, 2) := by decide +kernel
theorem dX12_init_19 : decode cX12_init 19 = .ok (.putfield 13, 3) := by decide +kernel
theorem dX12_init_22 : decode cX12_init 22 = .ok (.aload_n 0, 1) := by decide +kernel
theorem dX12_init_23 : decode cX12_init 23 = .ok (.sipush 340, 3) := by decide +kernel
theorem dX12_init_26 : decode cX12_init 26 = .ok (.newarray .int, 2) := by decide +kernel
theorem dX12_init_28 : decode cX12_init 28 = .ok (.putfield 16, 3) := by decide +kernel
theorem dX12_init_31 : decode cX12_init 31 = .ok (.aload_n 0, 1) := by decide +kernel
theorem dX12_init_32 : decode cX12_init 32 = .ok (.bipush 6, 2) := by decide +kernel
theorem dX12_init_34 : decode cX12_init 34 = .ok (.newarray .int, 2) := by decide +kernel
theorem dX12_init_36 : decode cX12_init 36 = .ok (.putfield 19, 3) := by decide +kernel
theorem dX12_init_39 : decode cX12_init 39 = .ok (.aload_n 0, 1) := by decide +kernel
theorem dX12_init_40 : decode cX12_init 40 = .ok (.iconst 3, 1) := by decide +kernel
theorem dX12_init_41 : decode cX12_init 41 = .ok (.newarray .int, 2) := by decide +kernel
theorem dX12_init_43 : decode cX12_init 43 = .ok (.putfield 22, 3) := by decide +kernel
theorem dX12_init_46 : decode cX12_init 46 = .ok (.aload_n 0, 1) := by decide +kernel
theorem dX12_init_47 : decode cX12_init 47 = .ok (.bipush 40, 2) := by decide +kernel
theorem dX12_init_49 : decode cX12_init 49 = .ok (.newarray .int, 2) := by decide +kernel
theorem dX12_init_51 : decode cX12_init 51 = .ok (.putfield 25, 3) := by decide +kernel
theorem dX12_init_54 : decode cX12_init 54 = .ok (.aload_n 0, 1) := by decide +kernel
theorem dX12_init_55 : decode cX12_init 55 = .ok (.bipush 6, 2) := by decide +kernel
theorem dX12_init_57 : decode cX12_init 57 = .ok (.newarray .int, 2) := by decide +kernel
theorem dX12_init_59 : decode cX12_init 59 = .ok (.putfield 28, 3) := by decide +kernel
theorem dX12_init_62 : decode cX12_init 62 = .ok (.aload_n 0, 1) := by decide +kernel
theorem dX12_init_63 : decode cX12_init 63 = .ok (.sipush 240, 3) := by decide +kernel
theorem dX12_init_66 : decode cX12_init 66 = .ok (.newarray .int, 2) := by decide +kernel
theorem dX12_init_68 : decode cX12_init 68 = .ok (.putfield 31, 3) := by decide +kernel
theorem dX12_init_71 : decode cX12_init 71 = .ok (.aload_n 0, 1) := by decide +kernel
theorem dX12_init_72 : decode cX12_init 72 = .ok (.bipush 40, 2) := by decide +kernel
theorem dX12_init_74 : decode cX12_init 74 = .ok (.newarray .int, 2) := by decide +kernel
theorem dX12_init_76 : decode cX12_init 76 = .ok (.putfield 34, 3) := by decide +kernel
theorem dX12_init_79 : decode cX12_init 79 = .ok (.aload_n 0, 1) := by decide +kernel
theorem dX12_init_80 : decode cX12_init 80 = .ok (.iconst 4, 1) := by decide +kernel
theorem dX12_init_81 : decode cX12_init 81 = .ok (.newarray .int, 2) := by decide +kernel
theorem dX12_init_83 : decode cX12_init 83 = .ok (.putfield 37, 3) := by decide +kernel
theorem dX12_init_86 : decode cX12_init 86 = .ok (.aload_n 0, 1) := by decide +kernel
theorem dX12_init_87 : decode cX12_init 87 = .ok (.iconst 4, 1) := by decide +kernel
theorem dX12_init_88 : decode cX12_init 88 = .ok (.newarray .int, 2) := by decide +kernel
theorem dX12_init_90 : decode cX12_init 90 = .ok (.putfield 40, 3) := by decide +kernel
theorem dX12_init_93 : decode cX12_init 93 = .ok (.aload_n 0, 1) := by decide +kernel
theorem dX12_init_94 : decode cX12_init 94 = .ok (.sipush 160, 3) := by decide +kernel
theorem dX12_init_97 : decode cX12_init 97 = .ok (.newarray .int, 2) := by decide +kernel
theorem dX12_init_99 : decode cX12_init 99 = .ok (.putfield 43, 3) := by decide +kernel
theorem dX12_init_102 : decode cX12_init 102 = .ok (.aload_n 0, 1) := by decide +kernel
theorem dX12_init_103 : decode cX12_init 103 = .ok (.bipush 40, 2) := by decide +kernel
theorem dX12_init_105 : decode cX12_init 105 = .ok (.newarray .int, 2) := by decide +kernel
theorem dX12_init_107 : decode cX12_init 107 = .ok (.putfield 46, 3) := by decide +kernel
theorem dX12_init_110 : decode cX12_init 110 = .ok (.aload_n 0, 1) := by decide +kernel
theorem dX12_init_111 : decode cX12_init 111 = .ok (.getfield 7, 3) := by decide +kernel
theorem dX12_init_114 : decode cX12_init 114 = .ok (.iconst 1, 1) := by decide +kernel
theorem dX12_init_115 : decode cX12_init 115 = .ok (.iconst 1, 1) := by decide +kernel
theorem dX12_init_116 : decode cX12_init 116 = .ok (.iastore, 1) := by decide +kernel
theorem dX12_init_117 : decode cX12_init 117 = .ok (.aload_n 0, 1) := by decide +kernel
theorem dX12_init_118 : decode cX12_init 118 = .ok (.getfield 7, 3) := by decide +kernel
theorem dX12_init_121 : decode cX12_init 121 = .ok (.bipush 100, 2) := by decide +kernel
theorem dX12_init_123 : decode cX12_init 123 = .ok (.bipush 10, 2) := by decide +kernel
theorem dX12_init_125 : decode cX12_init 125 = .ok (.iastore, 1) := by decide +kernel
theorem dX12_init_126 : decode cX12_init 126 = .ok (.aload_n 0, 1) := by decide +kernel
theorem dX12_init_127 : decode cX12_init 127 = .ok (.getfield 7, 3) := by decide +kernel
theorem dX12_init_130 : decode cX12_init 130 = .ok (.iconst 4, 1) := by decide +kernel
theorem dX12_init_131 : decode cX12_init 131 = .ok (.sipush 200, 3) := by decide +kernel
theorem dX12_init_134 : decode cX12_init 134 = .ok (.iastore, 1) := by decide +kernel
theorem dX12_init_135 : decode cX12_init 135 = .ok (.aload_n 0, 1) := by decide +kernel
theorem dX12_init_136 : decode cX12_init 136 = .ok (.getfield 7, 3) := by decide +kernel
theorem dX12_init_139 : decode cX12_init 139 = .ok (.bipush 6, 2) := by decide +kernel
theorem dX12_init_141 : decode cX12_init 141 = .ok (.bipush 20, 2) := by decide +kernel
theorem dX12_init_143 : decode cX12_init 143 = .ok (.iastore, 1) := by decide +kernel
theorem dX12_init_144 : decode cX12_init 144 = .ok (.aload_n 0, 1) := by decide +kernel
theorem dX12_init_145 : decode cX12_init 145 = .ok (.getfield 7, 3) := by decide +kernel
theorem dX12_init_148 : decode cX12_init 148 = .ok (.bipush 8, 2) := by decide +kernel
theorem dX12_init_150 : decode cX12_init 150 = .ok (.bipush 50, 2) := by decide +kernel
theorem dX12_init_152 : decode cX12_init 152 = .ok (.iastore, 1) := by decide +kernel
theorem dX12_init_153 : decode cX12_init 153 = .ok (.aload_n 0, 1) := by decide +kernel
theorem dX12_init_154 : decode cX12_init 154 = .ok (.getfield 7, 3) := by decide +kernel
theorem dX12_init_157 : decode cX12_init 157 = .ok (.bipush 9, 2) := by decide +kernel
theorem dX12_init_159 : decode cX12_init 159 = .ok (.ldc 49, 2) := by decide +kernel
theorem dX12_init_161 : decode cX12_init 161 = .ok (.iastore, 1) := by decide +kernel
theorem dX12_init_162 : decode cX12_init 162 = .ok (.aload_n 0, 1) := by decide +kernel
theorem dX12_init_163 : decode cX12_init 163 = .ok (.getfield 7, 3) := by decide +kernel
theorem dX12_init_166 : decode cX12_init 166 = .ok (.bipush 13, 2) := by decide +kernel
theorem dX12_init_168 : decode cX12_init 168 = .ok (.iconst 1, 1) := by decide +kernel
theorem dX12_init_169 : decode cX12_init 169 = .ok (.iastore, 1) := by decide +kernel
theorem dX12_init_170 : decode cX12_init 170 = .ok (.return_, 1) := by decide +kernel
theorem dX12_finds_0 : decode cX12_finds 0 = .ok (.aload_n 0, 1) := by decide +kernel
theorem dX12_finds_1 : decode cX12_finds 1 = .ok (.getfield 19, 3) := by decide +kernel
theorem dX12_finds_4 : decode cX12_finds 4 = .ok (.iload_n 1, 1) := by decide +kernel
theorem dX12_finds_5 : decode cX12_finds 5 = .ok (.dup2, 1) := by decide +kernel
theorem dX12_finds_6 : decode cX12_finds 6 = .ok (.iaload, 1) := by decide +kernel
theorem dX12_finds_7 : decode cX12_finds 7 = .ok (.iconst 1, 1) := by decide +kernel
theorem dX12_finds_8 : decode cX12_finds 8 = .ok (.iadd, 1) := by decide +kernel
theorem dX12_finds_9 : decode cX12_finds 9 = .ok (.iastore, 1) := by decide +kernel
theorem dX12_finds_10 : decode cX12_finds 10 = .ok (.ldc 50, 2) := by decide +kernel
theorem dX12_finds_12 : decode cX12_finds 12 = .ok (.iload_n 1, 1) := by decide +kernel
theorem dX12_finds_13 : decode cX12_finds 13 = .ok (.isub, 1) := by decide +kernel
theorem dX12_finds_14 : decode cX12_finds 14 = .ok (.ireturn, 1) := by decide +kernel
theorem dX12_in_0 : decode cX12_in 0 = .ok (.lload_n 0, 1) := by decide +kernel
theorem dX12_in_1 : decode cX12_in 1 = .ok (.lload_n 2, 1) := by decide +kernel
theorem dX12_in_2 : decode cX12_in 2 = .ok (.lcmp, 1) := by decide +kernel
theorem dX12_in_3 : decode cX12_in 3 = .ok (.ifCond .lt 14, 3) := by decide +kernel
theorem dX12_in_6 : decode cX12_in 6 = .ok (.lload_n 0, 1) := by decide +kernel
theorem dX12_in_7 : decode cX12_in 7 = .ok (.lload 4, 2) := by decide +kernel
theorem dX12_in_9 : decode cX12_in 9 = .ok (.lcmp, 1) := by decide +kernel
theorem dX12_in_10 : decode cX12_in 10 = .ok (.ifCond .gt 7, 3) := by decide +kernel
theorem dX12_in_13 : decode cX12_in 13 = .ok (.iconst 1, 1) := by decide +kernel
theorem dX12_in_14 : decode cX12_in 14 = .ok (.goto 4, 3) := by decide +kernel
theorem dX12_in_17 : decode cX12_in 17 = .ok (.iconst 0, 1) := by decide +kernel
theorem dX12_in_18 : decode cX12_in 18 = .ok (.ireturn, 1) := by decide +kernel
theorem dX12_held_0 : decode cX12_held 0 = .ok (.iload_n 0, 1) := by decide +kernel
theorem dX12_held_1 : decode cX12_held 1 = .ok (.iload_n 1, 1) := by decide +kernel
theorem dX12_held_2 : decode cX12_held 2 = .ok (.if_icmp .ge 7, 3) := by decide +kernel
theorem dX12_held_5 : decode cX12_held 5 = .ok (.iload_n 1, 1) := by decide +kernel
theorem dX12_held_6 : decode cX12_held 6 = .ok (.goto 13, 3) := by decide +kernel
theorem dX12_held_9 : decode cX12_held 9 = .ok (.iload_n 0, 1) := by decide +kernel
theorem dX12_held_10 : decode cX12_held 10 = .ok (.iload_n 2, 1) := by decide +kernel
theorem dX12_held_11 : decode cX12_held 11 = .ok (.if_icmp .le 7, 3) := by decide +kernel
theorem dX12_held_14 : decode cX12_held 14 = .ok (.iload_n 2, 1) := by decide +kernel
theorem dX12_held_15 : decode cX12_held 15 = .ok (.goto 4, 3) := by decide +kernel
theorem dX12_held_18 : decode cX12_held 18 = .ok (.iload_n 0, 1) := by decide +kernel
theorem dX12_held_19 : decode cX12_held 19 = .ok (.ireturn, 1) := by decide +kernel
theorem dX12_copies_0 : decode cX12_copies 0 = .ok (.iconst 0, 1) := by decide +kernel
theorem dX12_copies_1 : decode cX12_copies 1 = .ok (.istore_n 2, 1) := by decide +kernel
theorem dX12_copies_2 : decode cX12_copies 2 = .ok (.iload_n 2, 1) := by decide +kernel
theorem dX12_copies_3 : decode cX12_copies 3 = .ok (.sipush 340, 3) := by decide +kernel
theorem dX12_copies_6 : decode cX12_copies 6 = .ok (.if_icmp .ge 15, 3) := by decide +kernel
theorem dX12_copies_9 : decode cX12_copies 9 = .ok (.aload_n 1, 1) := by decide +kernel
theorem dX12_copies_10 : decode cX12_copies 10 = .ok (.iload_n 2, 1) := by decide +kernel
theorem dX12_copies_11 : decode cX12_copies 11 = .ok (.aload_n 0, 1) := by decide +kernel
theorem dX12_copies_12 : decode cX12_copies 12 = .ok (.iload_n 2, 1) := by decide +kernel
theorem dX12_copies_13 : decode cX12_copies 13 = .ok (.iaload, 1) := by decide +kernel
theorem dX12_copies_14 : decode cX12_copies 14 = .ok (.iastore, 1) := by decide +kernel
theorem dX12_copies_15 : decode cX12_copies 15 = .ok (.iinc 2 1, 3) := by decide +kernel
theorem dX12_copies_18 : decode cX12_copies 18 = .ok (.goto (-16), 3) := by decide +kernel
theorem dX12_copies_21 : decode cX12_copies 21 = .ok (.return_, 1) := by decide +kernel
theorem dX12_isCell_0 : decode cX12_isCell 0 = .ok (.iload_n 1, 1) := by decide +kernel
theorem dX12_isCell_1 : decode cX12_isCell 1 = .ok (.i2l, 1) := by decide +kernel
theorem dX12_isCell_2 : decode cX12_isCell 2 = .ok (.lconst 0, 1) := by decide +kernel
theorem dX12_isCell_3 : decode cX12_isCell 3 = .ok (.aload_n 0, 1) := by decide +kernel
theorem dX12_isCell_4 : decode cX12_isCell 4 = .ok (.getfield 7, 3) := by decide +kernel
theorem dX12_isCell_7 : decode cX12_isCell 7 = .ok (.iconst 1, 1) := by decide +kernel
theorem dX12_isCell_8 : decode cX12_isCell 8 = .ok (.iaload, 1) := by decide +kernel
theorem dX12_isCell_9 : decode cX12_isCell 9 = .ok (.iconst 1, 1) := by decide +kernel
theorem dX12_isCell_10 : decode cX12_isCell 10 = .ok (.isub, 1) := by decide +kernel
theorem dX12_isCell_11 : decode cX12_isCell 11 = .ok (.i2l, 1) := by decide +kernel
theorem dX12_isCell_12 : decode cX12_isCell 12 = .ok (.invokestatic 51, 3) := by decide +kernel
theorem dX12_isCell_15 : decode cX12_isCell 15 = .ok (.ireturn, 1) := by decide +kernel
theorem dX12_isCause_0 : decode cX12_isCause 0 = .ok (.iload_n 1, 1) := by decide +kernel
theorem dX12_isCause_1 : decode cX12_isCause 1 = .ok (.i2l, 1) := by decide +kernel
theorem dX12_isCause_2 : decode cX12_isCause 2 = .ok (.lconst 0, 1) := by decide +kernel
theorem dX12_isCause_3 : decode cX12_isCause 3 = .ok (.aload_n 0, 1) := by decide +kernel
theorem dX12_isCause_4 : decode cX12_isCause 4 = .ok (.getfield 7, 3) := by decide +kernel
theorem dX12_isCause_7 : decode cX12_isCause 7 = .ok (.bipush 11, 2) := by decide +kernel
theorem dX12_isCause_9 : decode cX12_isCause 9 = .ok (.iaload, 1) := by decide +kernel
theorem dX12_isCause_10 : decode cX12_isCause 10 = .ok (.iconst 1, 1) := by decide +kernel
theorem dX12_isCause_11 : decode cX12_isCause 11 = .ok (.isub, 1) := by decide +kernel
theorem dX12_isCause_12 : decode cX12_isCause 12 = .ok (.i2l, 1) := by decide +kernel
theorem dX12_isCause_13 : decode cX12_isCause 13 = .ok (.invokestatic 51, 3) := by decide +kernel
theorem dX12_isCause_16 : decode cX12_isCause 16 = .ok (.ireturn, 1) := by decide +kernel
theorem dX12_standsOut_0 : decode cX12_standsOut 0 = .ok (.aload_n 0, 1) := by decide +kernel
theorem dX12_standsOut_1 : decode cX12_standsOut 1 = .ok (.bipush 100, 2) := by decide +kernel
theorem dX12_standsOut_3 : decode cX12_standsOut 3 = .ok (.iload_n 1, 1) := by decide +kernel
theorem dX12_standsOut_4 : decode cX12_standsOut 4 = .ok (.iadd, 1) := by decide +kernel
theorem dX12_standsOut_5 : decode cX12_standsOut 5 = .ok (.iaload, 1) := by decide +kernel
theorem dX12_standsOut_6 : decode cX12_standsOut 6 = .ok (.istore_n 2, 1) := by decide +kernel
theorem dX12_standsOut_7 : decode cX12_standsOut 7 = .ok (.iload_n 1, 1) := by decide +kernel
theorem dX12_standsOut_8 : decode cX12_standsOut 8 = .ok (.ifCond .ne 7, 3) := by decide +kernel
theorem dX12_standsOut_11 : decode cX12_standsOut 11 = .ok (.iload_n 2, 1) := by decide +kernel
theorem dX12_standsOut_12 : decode cX12_standsOut 12 = .ok (.goto 11, 3) := by decide +kernel
theorem dX12_standsOut_15 : decode cX12_standsOut 15 = .ok (.aload_n 0, 1) := by decide +kernel
theorem dX12_standsOut_16 : decode cX12_standsOut 16 = .ok (.bipush 100, 2) := by decide +kernel
theorem dX12_standsOut_18 : decode cX12_standsOut 18 = .ok (.iload_n 1, 1) := by decide +kernel
theorem dX12_standsOut_19 : decode cX12_standsOut 19 = .ok (.iadd, 1) := by decide +kernel
theorem dX12_standsOut_20 : decode cX12_standsOut 20 = .ok (.iconst 1, 1) := by decide +kernel
theorem dX12_standsOut_21 : decode cX12_standsOut 21 = .ok (.isub, 1) := by decide +kernel
theorem dX12_standsOut_22 : decode cX12_standsOut 22 = .ok (.iaload, 1) := by decide +kernel
theorem dX12_standsOut_23 : decode cX12_standsOut 23 = .ok (.istore_n 3, 1) := by decide +kernel
theorem dX12_standsOut_24 : decode cX12_standsOut 24 = .ok (.iload_n 1, 1) := by decide +kernel
theorem dX12_standsOut_25 : decode cX12_standsOut 25 = .ok (.aload_n 0, 1) := by decide +kernel
theorem dX12_standsOut_26 : decode cX12_standsOut 26 = .ok (.iconst 1, 1) := by decide +kernel
theorem dX12_standsOut_27 : decode cX12_standsOut 27 = .ok (.iaload, 1) := by decide +kernel
theorem dX12_standsOut_28 : decode cX12_standsOut 28 = .ok (.iconst 1, 1) := by decide +kernel
theorem dX12_standsOut_29 : decode cX12_standsOut 29 = .ok (.isub, 1) := by decide +kernel
theorem dX12_standsOut_30 : decode cX12_standsOut 30 = .ok (.if_icmp .ne 7, 3) := by decide +kernel
theorem dX12_standsOut_33 : decode cX12_standsOut 33 = .ok (.iload_n 2, 1) := by decide +kernel
theorem dX12_standsOut_34 : decode cX12_standsOut 34 = .ok (.goto 11, 3) := by decide +kernel
theorem dX12_standsOut_37 : decode cX12_standsOut 37 = .ok (.aload_n 0, 1) := by decide +kernel
theorem dX12_standsOut_38 : decode cX12_standsOut 38 = .ok (.bipush 100, 2) := by decide +kernel
theorem dX12_standsOut_40 : decode cX12_standsOut 40 = .ok (.iload_n 1, 1) := by decide +kernel
theorem dX12_standsOut_41 : decode cX12_standsOut 41 = .ok (.iadd, 1) := by decide +kernel
theorem dX12_standsOut_42 : decode cX12_standsOut 42 = .ok (.iconst 1, 1) := by decide +kernel
theorem dX12_standsOut_43 : decode cX12_standsOut 43 = .ok (.iadd, 1) := by decide +kernel
theorem dX12_standsOut_44 : decode cX12_standsOut 44 = .ok (.iaload, 1) := by decide +kernel
theorem dX12_standsOut_45 : decode cX12_standsOut 45 = .ok (.istore 4, 2) := by decide +kernel
theorem dX12_standsOut_47 : decode cX12_standsOut 47 = .ok (.iconst 2, 1) := by decide +kernel
theorem dX12_standsOut_48 : decode cX12_standsOut 48 = .ok (.iload_n 2, 1) := by decide +kernel
theorem dX12_standsOut_49 : decode cX12_standsOut 49 = .ok (.imul, 1) := by decide +kernel
theorem dX12_standsOut_50 : decode cX12_standsOut 50 = .ok (.iload_n 3, 1) := by decide +kernel
theorem dX12_standsOut_51 : decode cX12_standsOut 51 = .ok (.isub, 1) := by decide +kernel
theorem dX12_standsOut_52 : decode cX12_standsOut 52 = .ok (.iload 4, 2) := by decide +kernel
theorem dX12_standsOut_54 : decode cX12_standsOut 54 = .ok (.isub, 1) := by decide +kernel
theorem dX12_standsOut_55 : decode cX12_standsOut 55 = .ok (.ireturn, 1) := by decide +kernel
theorem dX12_cell_0 : decode cX12_cell 0 = .ok (.aload_n 0, 1) := by decide +kernel
theorem dX12_cell_1 : decode cX12_cell 1 = .ok (.iload_n 1, 1) := by decide +kernel
theorem dX12_cell_2 : decode cX12_cell 2 = .ok (.invokevirtual 55, 3) := by decide +kernel
theorem dX12_cell_5 : decode cX12_cell 5 = .ok (.ifCond .eq 15, 3) := by decide +kernel
theorem dX12_cell_8 : decode cX12_cell 8 = .ok (.iload_n 2, 1) := by decide +kernel
theorem dX12_cell_9 : decode cX12_cell 9 = .ok (.i2l, 1) := by decide +kernel
theorem dX12_cell_10 : decode cX12_cell 10 = .ok (.lconst 0, 1) := by decide +kernel
theorem dX12_cell_11 : decode cX12_cell 11 = .ok (.ldc2_w 59, 3) := by decide +kernel
theorem dX12_cell_14 : decode cX12_cell 14 = .ok (.invokestatic 51, 3) := by decide +kernel
theorem dX12_cell_17 : decode cX12_cell 17 = .ok (.ifCond .ne 9, 3) := by decide +kernel
theorem dX12_cell_20 : decode cX12_cell 20 = .ok (.aload_n 0, 1) := by decide +kernel
theorem dX12_cell_21 : decode cX12_cell 21 = .ok (.iconst 1, 1) := by decide +kernel
theorem dX12_cell_22 : decode cX12_cell 22 = .ok (.invokevirtual 61, 3) := by decide +kernel
theorem dX12_cell_25 : decode cX12_cell 25 = .ok (.ireturn, 1) := by decide +kernel
theorem dX12_cell_26 : decode cX12_cell 26 = .ok (.iload_n 2, 1) := by decide +kernel
theorem dX12_cell_27 : decode cX12_cell 27 = .ok (.ifCond .ne 15, 3) := by decide +kernel
theorem dX12_cell_30 : decode cX12_cell 30 = .ok (.aload_n 0, 1) := by decide +kernel
theorem dX12_cell_31 : decode cX12_cell 31 = .ok (.getfield 7, 3) := by decide +kernel
theorem dX12_cell_34 : decode cX12_cell 34 = .ok (.bipush 100, 2) := by decide +kernel
theorem dX12_cell_36 : decode cX12_cell 36 = .ok (.iload_n 1, 1) := by decide +kernel
theorem dX12_cell_37 : decode cX12_cell 37 = .ok (.iadd, 1) := by decide +kernel
theorem dX12_cell_38 : decode cX12_cell 38 = .ok (.iaload, 1) := by decide +kernel
theorem dX12_cell_39 : decode cX12_cell 39 = .ok (.goto 29, 3) := by decide +kernel
theorem dX12_cell_42 : decode cX12_cell 42 = .ok (.iload_n 2, 1) := by decide +kernel
theorem dX12_cell_43 : decode cX12_cell 43 = .ok (.iconst 1, 1) := by decide +kernel
theorem dX12_cell_44 : decode cX12_cell 44 = .ok (.if_icmp .ne 16, 3) := by decide +kernel
theorem dX12_cell_47 : decode cX12_cell 47 = .ok (.aload_n 0, 1) := by decide +kernel
theorem dX12_cell_48 : decode cX12_cell 48 = .ok (.getfield 7, 3) := by decide +kernel
theorem dX12_cell_51 : decode cX12_cell 51 = .ok (.sipush 140, 3) := by decide +kernel
theorem dX12_cell_54 : decode cX12_cell 54 = .ok (.iload_n 1, 1) := by decide +kernel
theorem dX12_cell_55 : decode cX12_cell 55 = .ok (.iadd, 1) := by decide +kernel
theorem dX12_cell_56 : decode cX12_cell 56 = .ok (.iaload, 1) := by decide +kernel
theorem dX12_cell_57 : decode cX12_cell 57 = .ok (.goto 11, 3) := by decide +kernel
theorem dX12_cell_60 : decode cX12_cell 60 = .ok (.aload_n 0, 1) := by decide +kernel
theorem dX12_cell_61 : decode cX12_cell 61 = .ok (.getfield 7, 3) := by decide +kernel
theorem dX12_cell_64 : decode cX12_cell 64 = .ok (.iload_n 1, 1) := by decide +kernel
theorem dX12_cell_65 : decode cX12_cell 65 = .ok (.invokestatic 65, 3) := by decide +kernel
theorem dX12_cell_68 : decode cX12_cell 68 = .ok (.ireturn, 1) := by decide +kernel
theorem dX12_shape_0 : decode cX12_shape 0 = .ok (.aload_n 0, 1) := by decide +kernel
theorem dX12_shape_1 : decode cX12_shape 1 = .ok (.iload_n 1, 1) := by decide +kernel
theorem dX12_shape_2 : decode cX12_shape 2 = .ok (.invokevirtual 55, 3) := by decide +kernel
theorem dX12_shape_5 : decode cX12_shape 5 = .ok (.ifCond .eq 35, 3) := by decide +kernel
theorem dX12_shape_8 : decode cX12_shape 8 = .ok (.iload_n 2, 1) := by decide +kernel
theorem dX12_shape_9 : decode cX12_shape 9 = .ok (.i2l, 1) := by decide +kernel
theorem dX12_shape_10 : decode cX12_shape 10 = .ok (.lconst 0, 1) := by decide +kernel
theorem dX12_shape_11 : decode cX12_shape 11 = .ok (.lconst 1, 1) := by decide +kernel
theorem dX12_shape_12 : decode cX12_shape 12 = .ok (.invokestatic 51, 3) := by decide +kernel
theorem dX12_shape_15 : decode cX12_shape 15 = .ok (.ifCond .eq 25, 3) := by decide +kernel
theorem dX12_shape_18 : decode cX12_shape 18 = .ok (.iload_n 3, 1) := by decide +kernel
theorem dX12_shape_19 : decode cX12_shape 19 = .ok (.i2l, 1) := by decide +kernel
theorem dX12_shape_20 : decode cX12_shape 20 = .ok (.lconst 0, 1) := by decide +kernel
theorem dX12_shape_21 : decode cX12_shape 21 = .ok (.iload_n 2, 1) := by decide +kernel
theorem dX12_shape_22 : decode cX12_shape 22 = .ok (.ifCond .ne 9, 3) := by decide +kernel
theorem dX12_shape_25 : decode cX12_shape 25 = .ok (.ldc2_w 69, 3) := by decide +kernel
theorem dX12_shape_28 : decode cX12_shape 28 = .ok (.goto 6, 3) := by decide +kernel
theorem dX12_shape_31 : decode cX12_shape 31 = .ok (.ldc2_w 71, 3) := by decide +kernel
theorem dX12_shape_34 : decode cX12_shape 34 = .ok (.invokestatic 51, 3) := by decide +kernel
theorem dX12_shape_37 : decode cX12_shape 37 = .ok (.ifCond .ne 9, 3) := by decide +kernel
theorem dX12_shape_40 : decode cX12_shape 40 = .ok (.aload_n 0, 1) := by decide +kernel
theorem dX12_shape_41 : decode cX12_shape 41 = .ok (.iconst 1, 1) := by decide +kernel
theorem dX12_shape_42 : decode cX12_shape 42 = .ok (.invokevirtual 61, 3) := by decide +kernel
theorem dX12_shape_45 : decode cX12_shape 45 = .ok (.ireturn, 1) := by decide +kernel
theorem dX12_shape_46 : decode cX12_shape 46 = .ok (.iload_n 2, 1) := by decide +kernel
theorem dX12_shape_47 : decode cX12_shape 47 = .ok (.ifCond .ne 8, 3) := by decide +kernel
theorem dX12_shape_50 : decode cX12_shape 50 = .ok (.bipush 100, 2) := by decide +kernel
theorem dX12_shape_52 : decode cX12_shape 52 = .ok (.goto 6, 3) := by decide +kernel
theorem dX12_shape_55 : decode cX12_shape 55 = .ok (.sipush 140, 3) := by decide +kernel
theorem dX12_shape_58 : decode cX12_shape 58 = .ok (.iload_n 1, 1) := by decide +kernel
theorem dX12_shape_59 : decode cX12_shape 59 = .ok (.iadd, 1) := by decide +kernel
theorem dX12_shape_60 : decode cX12_shape 60 = .ok (.istore 4, 2) := by decide +kernel
theorem dX12_shape_62 : decode cX12_shape 62 = .ok (.aload_n 0, 1) := by decide +kernel
theorem dX12_shape_63 : decode cX12_shape 63 = .ok (.getfield 7, 3) := by decide +kernel
theorem dX12_shape_66 : decode cX12_shape 66 = .ok (.iload 4, 2) := by decide +kernel
theorem dX12_shape_68 : decode cX12_shape 68 = .ok (.iaload, 1) := by decide +kernel
theorem dX12_shape_69 : decode cX12_shape 69 = .ok (.istore 5, 2) := by decide +kernel
theorem dX12_shape_71 : decode cX12_shape 71 = .ok (.aload_n 0, 1) := by decide +kernel
theorem dX12_shape_72 : decode cX12_shape 72 = .ok (.getfield 7, 3) := by decide +kernel
theorem dX12_shape_75 : decode cX12_shape 75 = .ok (.iload 4, 2) := by decide +kernel
theorem dX12_shape_77 : decode cX12_shape 77 = .ok (.iload_n 3, 1) := by decide +kernel
theorem dX12_shape_78 : decode cX12_shape 78 = .ok (.iastore, 1) := by decide +kernel
theorem dX12_shape_79 : decode cX12_shape 79 = .ok (.iload 5, 2) := by decide +kernel
theorem dX12_shape_81 : decode cX12_shape 81 = .ok (.ireturn, 1) := by decide +kernel
theorem dX12_cells_0 : decode cX12_cells 0 = .ok (.iload_n 1, 1) := by decide +kernel
theorem dX12_cells_1 : decode cX12_cells 1 = .ok (.invokestatic 73, 3) := by decide +kernel
theorem dX12_cells_4 : decode cX12_cells 4 = .ok (.ifCond .ne 9, 3) := by decide +kernel
theorem dX12_cells_7 : decode cX12_cells 7 = .ok (.aload_n 0, 1) := by decide +kernel
theorem dX12_cells_8 : decode cX12_cells 8 = .ok (.iconst 1, 1) := by decide +kernel
theorem dX12_cells_9 : decode cX12_cells 9 = .ok (.invokevirtual 61, 3) := by decide +kernel
theorem dX12_cells_12 : decode cX12_cells 12 = .ok (.ireturn, 1) := by decide +kernel
theorem dX12_cells_13 : decode cX12_cells 13 = .ok (.aload_n 0, 1) := by decide +kernel
theorem dX12_cells_14 : decode cX12_cells 14 = .ok (.getfield 37, 3) := by decide +kernel
theorem dX12_cells_17 : decode cX12_cells 17 = .ok (.iload_n 1, 1) := by decide +kernel
theorem dX12_cells_18 : decode cX12_cells 18 = .ok (.iaload, 1) := by decide +kernel
theorem dX12_cells_19 : decode cX12_cells 19 = .ok (.ifCond .ne 9, 3) := by decide +kernel
theorem dX12_cells_22 : decode cX12_cells 22 = .ok (.aload_n 0, 1) := by decide +kernel
theorem dX12_cells_23 : decode cX12_cells 23 = .ok (.iconst 2, 1) := by decide +kernel
theorem dX12_cells_24 : decode cX12_cells 24 = .ok (.invokevirtual 61, 3) := by decide +kernel
theorem dX12_cells_27 : decode cX12_cells 27 = .ok (.ireturn, 1) := by decide +kernel
theorem dX12_cells_28 : decode cX12_cells 28 = .ok (.iconst 0, 1) := by decide +kernel
theorem dX12_cells_29 : decode cX12_cells 29 = .ok (.istore_n 2, 1) := by decide +kernel
theorem dX12_cells_30 : decode cX12_cells 30 = .ok (.iload_n 2, 1) := by decide +kernel
theorem dX12_cells_31 : decode cX12_cells 31 = .ok (.aload_n 0, 1) := by decide +kernel
theorem dX12_cells_32 : decode cX12_cells 32 = .ok (.getfield 40, 3) := by decide +kernel
theorem dX12_cells_35 : decode cX12_cells 35 = .ok (.iload_n 1, 1) := by decide +kernel
theorem dX12_cells_36 : decode cX12_cells 36 = .ok (.iaload, 1) := by decide +kernel
theorem dX12_cells_37 : decode cX12_cells 37 = .ok (.if_icmp .ge 61, 3) := by decide +kernel
theorem dX12_cells_40 : decode cX12_cells 40 = .ok (.iload_n 2, 1) := by decide +kernel
theorem dX12_cells_41 : decode cX12_cells 41 = .ok (.aload_n 0, 1) := by decide +kernel
theorem dX12_cells_42 : decode cX12_cells 42 = .ok (.getfield 7, 3) := by decide +kernel
theorem dX12_cells_45 : decode cX12_cells 45 = .ok (.iconst 1, 1) := by decide +kernel
theorem dX12_cells_46 : decode cX12_cells 46 = .ok (.iaload, 1) := by decide +kernel
theorem dX12_cells_47 : decode cX12_cells 47 = .ok (.if_icmp .ge 51, 3) := by decide +kernel
theorem dX12_cells_50 : decode cX12_cells 50 = .ok (.aload_n 0, 1) := by decide +kernel
theorem dX12_cells_51 : decode cX12_cells 51 = .ok (.getfield 43, 3) := by decide +kernel
theorem dX12_cells_54 : decode cX12_cells 54 = .ok (.bipush 40, 2) := by decide +kernel
theorem dX12_cells_56 : decode cX12_cells 56 = .ok (.iload_n 1, 1) := by decide +kernel
theorem dX12_cells_57 : decode cX12_cells 57 = .ok (.imul, 1) := by decide +kernel
theorem dX12_cells_58 : decode cX12_cells 58 = .ok (.iload_n 2, 1) := by decide +kernel
theorem dX12_cells_59 : decode cX12_cells 59 = .ok (.iadd, 1) := by decide +kernel
theorem dX12_cells_60 : decode cX12_cells 60 = .ok (.iaload, 1) := by decide +kernel
theorem dX12_cells_61 : decode cX12_cells 61 = .ok (.i2l, 1) := by decide +kernel
theorem dX12_cells_62 : decode cX12_cells 62 = .ok (.lconst 0, 1) := by decide +kernel
theorem dX12_cells_63 : decode cX12_cells 63 = .ok (.ldc2_w 69, 3) := by decide +kernel
theorem dX12_cells_66 : decode cX12_cells 66 = .ok (.invokestatic 51, 3) := by decide +kernel
theorem dX12_cells_69 : decode cX12_cells 69 = .ok (.ifCond .eq 29, 3) := by decide +kernel
theorem dX12_cells_72 : decode cX12_cells 72 = .ok (.aload_n 0, 1) := by decide +kernel
theorem dX12_cells_73 : decode cX12_cells 73 = .ok (.getfield 7, 3) := by decide +kernel
theorem dX12_cells_76 : decode cX12_cells 76 = .ok (.bipush 100, 2) := by decide +kernel
theorem dX12_cells_78 : decode cX12_cells 78 = .ok (.iload_n 2, 1) := by decide +kernel
theorem dX12_cells_79 : decode cX12_cells 79 = .ok (.iadd, 1) := by decide +kernel
theorem dX12_cells_80 : decode cX12_cells 80 = .ok (.aload_n 0, 1) := by decide +kernel
theorem dX12_cells_81 : decode cX12_cells 81 = .ok (.getfield 43, 3) := by decide +kernel
theorem dX12_cells_84 : decode cX12_cells 84 = .ok (.bipush 40, 2) := by decide +kernel
theorem dX12_cells_86 : decode cX12_cells 86 = .ok (.iload_n 1, 1) := by decide +kernel
theorem dX12_cells_87 : decode cX12_cells 87 = .ok (.imul, 1) := by decide +kernel
theorem dX12_cells_88 : decode cX12_cells 88 = .ok (.iload_n 2, 1) := by decide +kernel
theorem dX12_cells_89 : decode cX12_cells 89 = .ok (.iadd, 1) := by decide +kernel
theorem dX12_cells_90 : decode cX12_cells 90 = .ok (.iaload, 1) := by decide +kernel
theorem dX12_cells_91 : decode cX12_cells 91 = .ok (.iastore, 1) := by decide +kernel
theorem dX12_cells_92 : decode cX12_cells 92 = .ok (.iinc 2 1, 3) := by decide +kernel
theorem dX12_cells_95 : decode cX12_cells 95 = .ok (.goto (-65), 3) := by decide +kernel
theorem dX12_cells_98 : decode cX12_cells 98 = .ok (.iload_n 2, 1) := by decide +kernel
theorem dX12_cells_99 : decode cX12_cells 99 = .ok (.ireturn, 1) := by decide +kernel
theorem dX12_mayBe_0 : decode cX12_mayBe 0 = .ok (.iload_n 0, 1) := by decide +kernel
theorem dX12_mayBe_1 : decode cX12_mayBe 1 = .ok (.tableswitch 91 0 5 #[39, 49, 59, 49, 71, 81], 39) := by decide +kernel
theorem dX12_mayBe_40 : decode cX12_mayBe 40 = .ok (.iload_n 1, 1) := by decide +kernel
theorem dX12_mayBe_41 : decode cX12_mayBe 41 = .ok (.i2l, 1) := by decide +kernel
theorem dX12_mayBe_42 : decode cX12_mayBe 42 = .ok (.lconst 0, 1) := by decide +kernel
theorem dX12_mayBe_43 : decode cX12_mayBe 43 = .ok (.ldc2_w 76, 3) := by decide +kernel
theorem dX12_mayBe_46 : decode cX12_mayBe 46 = .ok (.invokestatic 51, 3) := by decide +kernel
theorem dX12_mayBe_49 : decode cX12_mayBe 49 = .ok (.ireturn, 1) := by decide +kernel
theorem dX12_mayBe_50 : decode cX12_mayBe 50 = .ok (.iload_n 1, 1) := by decide +kernel
theorem dX12_mayBe_51 : decode cX12_mayBe 51 = .ok (.i2l, 1) := by decide +kernel
theorem dX12_mayBe_52 : decode cX12_mayBe 52 = .ok (.lconst 0, 1) := by decide +kernel
theorem dX12_mayBe_53 : decode cX12_mayBe 53 = .ok (.ldc2_w 78, 3) := by decide +kernel
theorem dX12_mayBe_56 : decode cX12_mayBe 56 = .ok (.invokestatic 51, 3) := by decide +kernel
theorem dX12_mayBe_59 : decode cX12_mayBe 59 = .ok (.ireturn, 1) := by decide +kernel
theorem dX12_mayBe_60 : decode cX12_mayBe 60 = .ok (.iload_n 1, 1) := by decide +kernel
theorem dX12_mayBe_61 : decode cX12_mayBe 61 = .ok (.i2l, 1) := by decide +kernel
theorem dX12_mayBe_62 : decode cX12_mayBe 62 = .ok (.ldc2_w 80, 3) := by decide +kernel
theorem dX12_mayBe_65 : decode cX12_mayBe 65 = .ok (.ldc2_w 78, 3) := by decide +kernel
theorem dX12_mayBe_68 : decode cX12_mayBe 68 = .ok (.invokestatic 51, 3) := by decide +kernel
theorem dX12_mayBe_71 : decode cX12_mayBe 71 = .ok (.ireturn, 1) := by decide +kernel
theorem dX12_mayBe_72 : decode cX12_mayBe 72 = .ok (.iload_n 1, 1) := by decide +kernel
theorem dX12_mayBe_73 : decode cX12_mayBe 73 = .ok (.i2l, 1) := by decide +kernel
theorem dX12_mayBe_74 : decode cX12_mayBe 74 = .ok (.lconst 1, 1) := by decide +kernel
theorem dX12_mayBe_75 : decode cX12_mayBe 75 = .ok (.ldc2_w 82, 3) := by decide +kernel
theorem dX12_mayBe_78 : decode cX12_mayBe 78 = .ok (.invokestatic 51, 3) := by decide +kernel
theorem dX12_mayBe_81 : decode cX12_mayBe 81 = .ok (.ireturn, 1) := by decide +kernel
theorem dX12_mayBe_82 : decode cX12_mayBe 82 = .ok (.iload_n 1, 1) := by decide +kernel
theorem dX12_mayBe_83 : decode cX12_mayBe 83 = .ok (.i2l, 1) := by decide +kernel
theorem dX12_mayBe_84 : decode cX12_mayBe 84 = .ok (.lconst 0, 1) := by decide +kernel
theorem dX12_mayBe_85 : decode cX12_mayBe 85 = .ok (.ldc2_w 84, 3) := by decide +kernel
theorem dX12_mayBe_88 : decode cX12_mayBe 88 = .ok (.invokestatic 51, 3) := by decide +kernel
theorem dX12_mayBe_91 : decode cX12_mayBe 91 = .ok (.ireturn, 1) := by decide +kernel
theorem dX12_mayBe_92 : decode cX12_mayBe 92 = .ok (.iconst 0, 1) := by decide +kernel
theorem dX12_mayBe_93 : decode cX12_mayBe 93 = .ok (.ireturn, 1) := by decide +kernel
theorem dX12_set_0 : decode cX12_set 0 = .ok (.iload_n 1, 1) := by decide +kernel
theorem dX12_set_1 : decode cX12_set 1 = .ok (.iload_n 2, 1) := by decide +kernel
theorem dX12_set_2 : decode cX12_set 2 = .ok (.invokestatic 86, 3) := by decide +kernel
theorem dX12_set_5 : decode cX12_set 5 = .ok (.ifCond .ne 9, 3) := by decide +kernel
theorem dX12_set_8 : decode cX12_set 8 = .ok (.aload_n 0, 1) := by decide +kernel
theorem dX12_set_9 : decode cX12_set 9 = .ok (.iconst 1, 1) := by decide +kernel
theorem dX12_set_10 : decode cX12_set 10 = .ok (.invokevirtual 61, 3) := by decide +kernel
theorem dX12_set_13 : decode cX12_set 13 = .ok (.ireturn, 1) := by decide +kernel
theorem dX12_set_14 : decode cX12_set 14 = .ok (.aload_n 0, 1) := by decide +kernel
theorem dX12_set_15 : decode cX12_set 15 = .ok (.getfield 7, 3) := by decide +kernel
theorem dX12_set_18 : decode cX12_set 18 = .ok (.iconst 4, 1) := by decide +kernel
theorem dX12_set_19 : decode cX12_set 19 = .ok (.iload_n 1, 1) := by decide +kernel
theorem dX12_set_20 : decode cX12_set 20 = .ok (.iadd, 1) := by decide +kernel
theorem dX12_set_21 : decode cX12_set 21 = .ok (.iaload, 1) := by decide +kernel
theorem dX12_set_22 : decode cX12_set 22 = .ok (.istore_n 3, 1) := by decide +kernel
theorem dX12_set_23 : decode cX12_set 23 = .ok (.aload_n 0, 1) := by decide +kernel
theorem dX12_set_24 : decode cX12_set 24 = .ok (.getfield 7, 3) := by decide +kernel
theorem dX12_set_27 : decode cX12_set 27 = .ok (.iconst 4, 1) := by decide +kernel
theorem dX12_set_28 : decode cX12_set 28 = .ok (.iload_n 1, 1) := by decide +kernel
theorem dX12_set_29 : decode cX12_set 29 = .ok (.iadd, 1) := by decide +kernel
theorem dX12_set_30 : decode cX12_set 30 = .ok (.iload_n 2, 1) := by decide +kernel
theorem dX12_set_31 : decode cX12_set 31 = .ok (.iastore, 1) := by decide +kernel
theorem dX12_set_32 : decode cX12_set 32 = .ok (.iload_n 3, 1) := by decide +kernel
theorem dX12_set_33 : decode cX12_set 33 = .ok (.ireturn, 1) := by decide +kernel
theorem dX12_cause_0 : decode cX12_cause 0 = .ok (.iload_n 1, 1) := by decide +kernel
theorem dX12_cause_1 : decode cX12_cause 1 = .ok (.i2l, 1) := by decide +kernel
theorem dX12_cause_2 : decode cX12_cause 2 = .ok (.lconst 0, 1) := by decide +kernel
theorem dX12_cause_3 : decode cX12_cause 3 = .ok (.ldc2_w 90, 3) := by decide +kernel
theorem dX12_cause_6 : decode cX12_cause 6 = .ok (.invokestatic 51, 3) := by decide +kernel
theorem dX12_cause_9 : decode cX12_cause 9 = .ok (.ifCond .eq 15, 3) := by decide +kernel
theorem dX12_cause_12 : decode cX12_cause 12 = .ok (.iload_n 2, 1) := by decide +kernel
theorem dX12_cause_13 : decode cX12_cause 13 = .ok (.i2l, 1) := by decide +kernel
theorem dX12_cause_14 : decode cX12_cause 14 = .ok (.lconst 0, 1) := by decide +kernel
theorem dX12_cause_15 : decode cX12_cause 15 = .ok (.ldc2_w 78, 3) := by decide +kernel
theorem dX12_cause_18 : decode cX12_cause 18 = .ok (.invokestatic 51, 3) := by decide +kernel
theorem dX12_cause_21 : decode cX12_cause 21 = .ok (.ifCond .ne 9, 3) := by decide +kernel
theorem dX12_cause_24 : decode cX12_cause 24 = .ok (.aload_n 0, 1) := by decide +kernel
theorem dX12_cause_25 : decode cX12_cause 25 = .ok (.iconst 1, 1) := by decide +kernel
theorem dX12_cause_26 : decode cX12_cause 26 = .ok (.invokevirtual 61, 3) := by decide +kernel
theorem dX12_cause_29 : decode cX12_cause 29 = .ok (.ireturn, 1) := by decide +kernel
theorem dX12_cause_30 : decode cX12_cause 30 = .ok (.aload_n 0, 1) := by decide +kernel
theorem dX12_cause_31 : decode cX12_cause 31 = .ok (.getfield 7, 3) := by decide +kernel
theorem dX12_cause_34 : decode cX12_cause 34 = .ok (.bipush 11, 2) := by decide +kernel
theorem dX12_cause_36 : decode cX12_cause 36 = .ok (.iaload, 1) := by decide +kernel
theorem dX12_cause_37 : decode cX12_cause 37 = .ok (.bipush 6, 2) := by decide +kernel
theorem dX12_cause_39 : decode cX12_cause 39 = .ok (.if_icmp .ne 9, 3) := by decide +kernel
theorem dX12_cause_42 : decode cX12_cause 42 = .ok (.aload_n 0, 1) := by decide +kernel
theorem dX12_cause_43 : decode cX12_cause 43 = .ok (.iconst 4, 1) := by decide +kernel
theorem dX12_cause_44 : decode cX12_cause 44 = .ok (.invokevirtual 61, 3) := by decide +kernel
theorem dX12_cause_47 : decode cX12_cause 47 = .ok (.ireturn, 1) := by decide +kernel
theorem dX12_cause_48 : decode cX12_cause 48 = .ok (.aload_n 0, 1) := by decide +kernel
theorem dX12_cause_49 : decode cX12_cause 49 = .ok (.getfield 7, 3) := by decide +kernel
theorem dX12_cause_52 : decode cX12_cause 52 = .ok (.bipush 20, 2) := by decide +kernel
theorem dX12_cause_54 : decode cX12_cause 54 = .ok (.iconst 2, 1) := by decide +kernel
theorem dX12_cause_55 : decode cX12_cause 55 = .ok (.aload_n 0, 1) := by decide +kernel
theorem dX12_cause_56 : decode cX12_cause 56 = .ok (.getfield 7, 3) := by decide +kernel
theorem dX12_cause_59 : decode cX12_cause 59 = .ok (.bipush 11, 2) := by decide +kernel
theorem dX12_cause_61 : decode cX12_cause 61 = .ok (.iaload, 1) := by decide +kernel
theorem dX12_cause_62 : decode cX12_cause 62 = .ok (.imul, 1) := by decide +kernel
theorem dX12_cause_63 : decode cX12_cause 63 = .ok (.iadd, 1) := by decide +kernel
theorem dX12_cause_64 : decode cX12_cause 64 = .ok (.iload_n 1, 1) := by decide +kernel
theorem dX12_cause_65 : decode cX12_cause 65 = .ok (.iastore, 1) := by decide +kernel
theorem dX12_cause_66 : decode cX12_cause 66 = .ok (.aload_n 0, 1) := by decide +kernel
theorem dX12_cause_67 : decode cX12_cause 67 = .ok (.getfield 7, 3) := by decide +kernel
theorem dX12_cause_70 : decode cX12_cause 70 = .ok (.bipush 20, 2) := by decide +kernel
theorem dX12_cause_72 : decode cX12_cause 72 = .ok (.iconst 2, 1) := by decide +kernel
theorem dX12_cause_73 : decode cX12_cause 73 = .ok (.aload_n 0, 1) := by decide +kernel
theorem dX12_cause_74 : decode cX12_cause 74 = .ok (.getfield 7, 3) := by decide +kernel
theorem dX12_cause_77 : decode cX12_cause 77 = .ok (.bipush 11, 2) := by decide +kernel
theorem dX12_cause_79 : decode cX12_cause 79 = .ok (.iaload, 1) := by decide +kernel
theorem dX12_cause_80 : decode cX12_cause 80 = .ok (.imul, 1) := by decide +kernel
theorem dX12_cause_81 : decode cX12_cause 81 = .ok (.iadd, 1) := by decide +kernel
theorem dX12_cause_82 : decode cX12_cause 82 = .ok (.iconst 1, 1) := by decide +kernel
theorem dX12_cause_83 : decode cX12_cause 83 = .ok (.iadd, 1) := by decide +kernel
theorem dX12_cause_84 : decode cX12_cause 84 = .ok (.iload_n 2, 1) := by decide +kernel
theorem dX12_cause_85 : decode cX12_cause 85 = .ok (.iastore, 1) := by decide +kernel
theorem dX12_cause_86 : decode cX12_cause 86 = .ok (.aload_n 0, 1) := by decide +kernel
theorem dX12_cause_87 : decode cX12_cause 87 = .ok (.getfield 7, 3) := by decide +kernel
theorem dX12_cause_90 : decode cX12_cause 90 = .ok (.bipush 10, 2) := by decide +kernel
theorem dX12_cause_92 : decode cX12_cause 92 = .ok (.dup2, 1) := by decide +kernel
theorem dX12_cause_93 : decode cX12_cause 93 = .ok (.iaload, 1) := by decide +kernel
theorem dX12_cause_94 : decode cX12_cause 94 = .ok (.iconst 1, 1) := by decide +kernel
theorem dX12_cause_95 : decode cX12_cause 95 = .ok (.aload_n 0, 1) := by decide +kernel
theorem dX12_cause_96 : decode cX12_cause 96 = .ok (.getfield 7, 3) := by decide +kernel
theorem dX12_cause_99 : decode cX12_cause 99 = .ok (.bipush 11, 2) := by decide +kernel
theorem dX12_cause_101 : decode cX12_cause 101 = .ok (.iaload, 1) := by decide +kernel
theorem dX12_cause_102 : decode cX12_cause 102 = .ok (.ishl, 1) := by decide +kernel
theorem dX12_cause_103 : decode cX12_cause 103 = .ok (.ior, 1) := by decide +kernel
theorem dX12_cause_104 : decode cX12_cause 104 = .ok (.iastore, 1) := by decide +kernel
theorem dX12_cause_105 : decode cX12_cause 105 = .ok (.aload_n 0, 1) := by decide +kernel
theorem dX12_cause_106 : decode cX12_cause 106 = .ok (.getfield 7, 3) := by decide +kernel
theorem dX12_cause_109 : decode cX12_cause 109 = .ok (.bipush 11, 2) := by decide +kernel
theorem dX12_cause_111 : decode cX12_cause 111 = .ok (.dup2, 1) := by decide +kernel
theorem dX12_cause_112 : decode cX12_cause 112 = .ok (.iaload, 1) := by decide +kernel
theorem dX12_cause_113 : decode cX12_cause 113 = .ok (.iconst 1, 1) := by decide +kernel
theorem dX12_cause_114 : decode cX12_cause 114 = .ok (.iadd, 1) := by decide +kernel
theorem dX12_cause_115 : decode cX12_cause 115 = .ok (.iastore, 1) := by decide +kernel
theorem dX12_cause_116 : decode cX12_cause 116 = .ok (.aload_n 0, 1) := by decide +kernel
theorem dX12_cause_117 : decode cX12_cause 117 = .ok (.getfield 7, 3) := by decide +kernel
theorem dX12_cause_120 : decode cX12_cause 120 = .ok (.bipush 11, 2) := by decide +kernel
theorem dX12_cause_122 : decode cX12_cause 122 = .ok (.iaload, 1) := by decide +kernel
theorem dX12_cause_123 : decode cX12_cause 123 = .ok (.iconst 1, 1) := by decide +kernel
theorem dX12_cause_124 : decode cX12_cause 124 = .ok (.isub, 1) := by decide +kernel
theorem dX12_cause_125 : decode cX12_cause 125 = .ok (.ireturn, 1) := by decide +kernel
theorem dX12_ofCause_0 : decode cX12_ofCause 0 = .ok (.aload_n 0, 1) := by decide +kernel
theorem dX12_ofCause_1 : decode cX12_ofCause 1 = .ok (.iload_n 1, 1) := by decide +kernel
theorem dX12_ofCause_2 : decode cX12_ofCause 2 = .ok (.invokevirtual 92, 3) := by decide +kernel
theorem dX12_ofCause_5 : decode cX12_ofCause 5 = .ok (.ifCond .eq 15, 3) := by decide +kernel
theorem dX12_ofCause_8 : decode cX12_ofCause 8 = .ok (.iload_n 2, 1) := by decide +kernel
theorem dX12_ofCause_9 : decode cX12_ofCause 9 = .ok (.i2l, 1) := by decide +kernel
theorem dX12_ofCause_10 : decode cX12_ofCause 10 = .ok (.lconst 0, 1) := by decide +kernel
theorem dX12_ofCause_11 : decode cX12_ofCause 11 = .ok (.ldc2_w 59, 3) := by decide +kernel
theorem dX12_ofCause_14 : decode cX12_ofCause 14 = .ok (.invokestatic 51, 3) := by decide +kernel
theorem dX12_ofCause_17 : decode cX12_ofCause 17 = .ok (.ifCond .ne 9, 3) := by decide +kernel
theorem dX12_ofCause_20 : decode cX12_ofCause 20 = .ok (.aload_n 0, 1) := by decide +kernel
theorem dX12_ofCause_21 : decode cX12_ofCause 21 = .ok (.iconst 1, 1) := by decide +kernel
theorem dX12_ofCause_22 : decode cX12_ofCause 22 = .ok (.invokevirtual 61, 3) := by decide +kernel
theorem dX12_ofCause_25 : decode cX12_ofCause 25 = .ok (.ireturn, 1) := by decide +kernel
theorem dX12_ofCause_26 : decode cX12_ofCause 26 = .ok (.iload_n 2, 1) := by decide +kernel
theorem dX12_ofCause_27 : decode cX12_ofCause 27 = .ok (.iconst 2, 1) := by decide +kernel
theorem dX12_ofCause_28 : decode cX12_ofCause 28 = .ok (.if_icmp .ne 17, 3) := by decide +kernel
theorem dX12_ofCause_31 : decode cX12_ofCause 31 = .ok (.aload_n 0, 1) := by decide +kernel
theorem dX12_ofCause_32 : decode cX12_ofCause 32 = .ok (.getfield 7, 3) := by decide +kernel
theorem dX12_ofCause_35 : decode cX12_ofCause 35 = .ok (.bipush 10, 2) := by decide +kernel
theorem dX12_ofCause_37 : decode cX12_ofCause 37 = .ok (.iaload, 1) := by decide +kernel
theorem dX12_ofCause_38 : decode cX12_ofCause 38 = .ok (.iload_n 1, 1) := by decide +kernel
theorem dX12_ofCause_39 : decode cX12_ofCause 39 = .ok (.ishr, 1) := by decide +kernel
theorem dX12_ofCause_40 : decode cX12_ofCause 40 = .ok (.iconst 1, 1) := by decide +kernel
theorem dX12_ofCause_41 : decode cX12_ofCause 41 = .ok (.iand, 1) := by decide +kernel
theorem dX12_ofCause_42 : decode cX12_ofCause 42 = .ok (.goto 16, 3) := by decide +kernel
theorem dX12_ofCause_45 : decode cX12_ofCause 45 = .ok (.aload_n 0, 1) := by decide +kernel
theorem dX12_ofCause_46 : decode cX12_ofCause 46 = .ok (.getfield 7, 3) := by decide +kernel
theorem dX12_ofCause_49 : decode cX12_ofCause 49 = .ok (.bipush 20, 2) := by decide +kernel
theorem dX12_ofCause_51 : decode cX12_ofCause 51 = .ok (.iconst 2, 1) := by decide +kernel
theorem dX12_ofCause_52 : decode cX12_ofCause 52 = .ok (.iload_n 1, 1) := by decide +kernel
theorem dX12_ofCause_53 : decode cX12_ofCause 53 = .ok (.imul, 1) := by decide +kernel
theorem dX12_ofCause_54 : decode cX12_ofCause 54 = .ok (.iadd, 1) := by decide +kernel
theorem dX12_ofCause_55 : decode cX12_ofCause 55 = .ok (.iload_n 2, 1) := by decide +kernel
theorem dX12_ofCause_56 : decode cX12_ofCause 56 = .ok (.iadd, 1) := by decide +kernel
theorem dX12_ofCause_57 : decode cX12_ofCause 57 = .ok (.iaload, 1) := by decide +kernel
theorem dX12_ofCause_58 : decode cX12_ofCause 58 = .ok (.ireturn, 1) := by decide +kernel
theorem dX12_isOf_0 : decode cX12_isOf 0 = .ok (.iload_n 1, 1) := by decide +kernel
theorem dX12_isOf_1 : decode cX12_isOf 1 = .ok (.ifCond .eq 44, 3) := by decide +kernel
theorem dX12_isOf_4 : decode cX12_isOf 4 = .ok (.iload_n 1, 1) := by decide +kernel
theorem dX12_isOf_5 : decode cX12_isOf 5 = .ok (.iload_n 0, 1) := by decide +kernel
theorem dX12_isOf_6 : decode cX12_isOf 6 = .ok (.if_icmp .eq 39, 3) := by decide +kernel
theorem dX12_isOf_9 : decode cX12_isOf 9 = .ok (.iload_n 1, 1) := by decide +kernel
theorem dX12_isOf_10 : decode cX12_isOf 10 = .ok (.iconst 1, 1) := by decide +kernel
theorem dX12_isOf_11 : decode cX12_isOf 11 = .ok (.if_icmp .ne 9, 3) := by decide +kernel
theorem dX12_isOf_14 : decode cX12_isOf 14 = .ok (.iload_n 0, 1) := by decide +kernel
theorem dX12_isOf_15 : decode cX12_isOf 15 = .ok (.bipush 6, 2) := by decide +kernel
theorem dX12_isOf_17 : decode cX12_isOf 17 = .ok (.if_icmp .eq 28, 3) := by decide +kernel
theorem dX12_isOf_20 : decode cX12_isOf 20 = .ok (.iload_n 1, 1) := by decide +kernel
theorem dX12_isOf_21 : decode cX12_isOf 21 = .ok (.iconst 2, 1) := by decide +kernel
theorem dX12_isOf_22 : decode cX12_isOf 22 = .ok (.if_icmp .ne 13, 3) := by decide +kernel
theorem dX12_isOf_25 : decode cX12_isOf 25 = .ok (.iload_n 0, 1) := by decide +kernel
theorem dX12_isOf_26 : decode cX12_isOf 26 = .ok (.iconst 3, 1) := by decide +kernel
theorem dX12_isOf_27 : decode cX12_isOf 27 = .ok (.if_icmp .eq 18, 3) := by decide +kernel
theorem dX12_isOf_30 : decode cX12_isOf 30 = .ok (.iload_n 0, 1) := by decide +kernel
theorem dX12_isOf_31 : decode cX12_isOf 31 = .ok (.iconst 4, 1) := by decide +kernel
theorem dX12_isOf_32 : decode cX12_isOf 32 = .ok (.if_icmp .eq 13, 3) := by decide +kernel
theorem dX12_isOf_35 : decode cX12_isOf 35 = .ok (.iload_n 1, 1) := by decide +kernel
theorem dX12_isOf_36 : decode cX12_isOf 36 = .ok (.iconst 3, 1) := by decide +kernel
theorem dX12_isOf_37 : decode cX12_isOf 37 = .ok (.if_icmp .ne 12, 3) := by decide +kernel
theorem dX12_isOf_40 : decode cX12_isOf 40 = .ok (.iload_n 0, 1) := by decide +kernel
theorem dX12_isOf_41 : decode cX12_isOf 41 = .ok (.iconst 4, 1) := by decide +kernel
theorem dX12_isOf_42 : decode cX12_isOf 42 = .ok (.if_icmp .ne 7, 3) := by decide +kernel
theorem dX12_isOf_45 : decode cX12_isOf 45 = .ok (.iconst 1, 1) := by decide +kernel
theorem dX12_isOf_46 : decode cX12_isOf 46 = .ok (.goto 4, 3) := by decide +kernel
theorem dX12_isOf_49 : decode cX12_isOf 49 = .ok (.iconst 0, 1) := by decide +kernel
theorem dX12_isOf_50 : decode cX12_isOf 50 = .ok (.ireturn, 1) := by decide +kernel
theorem dX12_as_0 : decode cX12_as 0 = .ok (.aload_n 0, 1) := by decide +kernel
theorem dX12_as_1 : decode cX12_as 1 = .ok (.iload_n 1, 1) := by decide +kernel
theorem dX12_as_2 : decode cX12_as 2 = .ok (.invokevirtual 92, 3) := by decide +kernel
theorem dX12_as_5 : decode cX12_as 5 = .ok (.ifCond .eq 15, 3) := by decide +kernel
theorem dX12_as_8 : decode cX12_as 8 = .ok (.iload_n 2, 1) := by decide +kernel
theorem dX12_as_9 : decode cX12_as 9 = .ok (.i2l, 1) := by decide +kernel
theorem dX12_as_10 : decode cX12_as 10 = .ok (.lconst 0, 1) := by decide +kernel
theorem dX12_as_11 : decode cX12_as 11 = .ok (.ldc2_w 90, 3) := by decide +kernel
theorem dX12_as_14 : decode cX12_as 14 = .ok (.invokestatic 51, 3) := by decide +kernel
theorem dX12_as_17 : decode cX12_as 17 = .ok (.ifCond .ne 9, 3) := by decide +kernel
theorem dX12_as_20 : decode cX12_as 20 = .ok (.aload_n 0, 1) := by decide +kernel
theorem dX12_as_21 : decode cX12_as 21 = .ok (.iconst 1, 1) := by decide +kernel
theorem dX12_as_22 : decode cX12_as 22 = .ok (.invokevirtual 61, 3) := by decide +kernel
theorem dX12_as_25 : decode cX12_as 25 = .ok (.ireturn, 1) := by decide +kernel
theorem dX12_as_26 : decode cX12_as 26 = .ok (.aload_n 0, 1) := by decide +kernel
theorem dX12_as_27 : decode cX12_as 27 = .ok (.getfield 7, 3) := by decide +kernel
theorem dX12_as_30 : decode cX12_as 30 = .ok (.bipush 20, 2) := by decide +kernel
theorem dX12_as_32 : decode cX12_as 32 = .ok (.iconst 2, 1) := by decide +kernel
theorem dX12_as_33 : decode cX12_as 33 = .ok (.iload_n 1, 1) := by decide +kernel
theorem dX12_as_34 : decode cX12_as 34 = .ok (.imul, 1) := by decide +kernel
theorem dX12_as_35 : decode cX12_as 35 = .ok (.iadd, 1) := by decide +kernel
theorem dX12_as_36 : decode cX12_as 36 = .ok (.iaload, 1) := by decide +kernel
theorem dX12_as_37 : decode cX12_as 37 = .ok (.iload_n 2, 1) := by decide +kernel
theorem dX12_as_38 : decode cX12_as 38 = .ok (.invokestatic 95, 3) := by decide +kernel
theorem dX12_as_41 : decode cX12_as 41 = .ok (.ifCond .eq 19, 3) := by decide +kernel
theorem dX12_as_44 : decode cX12_as 44 = .ok (.aload_n 0, 1) := by decide +kernel
theorem dX12_as_45 : decode cX12_as 45 = .ok (.getfield 7, 3) := by decide +kernel
theorem dX12_as_48 : decode cX12_as 48 = .ok (.bipush 20, 2) := by decide +kernel
theorem dX12_as_50 : decode cX12_as 50 = .ok (.iconst 2, 1) := by decide +kernel
theorem dX12_as_51 : decode cX12_as 51 = .ok (.iload_n 1, 1) := by decide +kernel
theorem dX12_as_52 : decode cX12_as 52 = .ok (.imul, 1) := by decide +kernel
theorem dX12_as_53 : decode cX12_as 53 = .ok (.iadd, 1) := by decide +kernel
theorem dX12_as_54 : decode cX12_as 54 = .ok (.iconst 1, 1) := by decide +kernel
theorem dX12_as_55 : decode cX12_as 55 = .ok (.iadd, 1) := by decide +kernel
theorem dX12_as_56 : decode cX12_as 56 = .ok (.iaload, 1) := by decide +kernel
theorem dX12_as_57 : decode cX12_as 57 = .ok (.goto 8, 3) := by decide +kernel
theorem dX12_as_60 : decode cX12_as 60 = .ok (.aload_n 0, 1) := by decide +kernel
theorem dX12_as_61 : decode cX12_as 61 = .ok (.iconst 5, 1) := by decide +kernel
theorem dX12_as_62 : decode cX12_as 62 = .ok (.invokevirtual 61, 3) := by decide +kernel
theorem dX12_as_65 : decode cX12_as 65 = .ok (.ireturn, 1) := by decide +kernel
theorem dX12_turn_0 : decode cX12_turn 0 = .ok (.aload_n 0, 1) := by decide +kernel
theorem dX12_turn_1 : decode cX12_turn 1 = .ok (.iload_n 1, 1) := by decide +kernel
theorem dX12_turn_2 : decode cX12_turn 2 = .ok (.invokevirtual 92, 3) := by decide +kernel
theorem dX12_turn_5 : decode cX12_turn 5 = .ok (.ifCond .eq 13, 3) := by decide +kernel
theorem dX12_turn_8 : decode cX12_turn 8 = .ok (.iload_n 2, 1) := by decide +kernel
theorem dX12_turn_9 : decode cX12_turn 9 = .ok (.i2l, 1) := by decide +kernel
theorem dX12_turn_10 : decode cX12_turn 10 = .ok (.lconst 0, 1) := by decide +kernel
theorem dX12_turn_11 : decode cX12_turn 11 = .ok (.lconst 1, 1) := by decide +kernel
theorem dX12_turn_12 : decode cX12_turn 12 = .ok (.invokestatic 51, 3) := by decide +kernel
theorem dX12_turn_15 : decode cX12_turn 15 = .ok (.ifCond .ne 9, 3) := by decide +kernel
theorem dX12_turn_18 : decode cX12_turn 18 = .ok (.aload_n 0, 1) := by decide +kernel
theorem dX12_turn_19 : decode cX12_turn 19 = .ok (.iconst 1, 1) := by decide +kernel
theorem dX12_turn_20 : decode cX12_turn 20 = .ok (.invokevirtual 61, 3) := by decide +kernel
theorem dX12_turn_23 : decode cX12_turn 23 = .ok (.ireturn, 1) := by decide +kernel
theorem dX12_turn_24 : decode cX12_turn 24 = .ok (.aload_n 0, 1) := by decide +kernel
theorem dX12_turn_25 : decode cX12_turn 25 = .ok (.getfield 7, 3) := by decide +kernel
theorem dX12_turn_28 : decode cX12_turn 28 = .ok (.bipush 10, 2) := by decide +kernel
theorem dX12_turn_30 : decode cX12_turn 30 = .ok (.iaload, 1) := by decide +kernel
theorem dX12_turn_31 : decode cX12_turn 31 = .ok (.iload_n 1, 1) := by decide +kernel
theorem dX12_turn_32 : decode cX12_turn 32 = .ok (.ishr, 1) := by decide +kernel
theorem dX12_turn_33 : decode cX12_turn 33 = .ok (.iconst 1, 1) := by decide +kernel
theorem dX12_turn_34 : decode cX12_turn 34 = .ok (.iand, 1) := by decide +kernel
theorem dX12_turn_35 : decode cX12_turn 35 = .ok (.istore_n 3, 1) := by decide +kernel
theorem dX12_turn_36 : decode cX12_turn 36 = .ok (.aload_n 0, 1) := by decide +kernel
theorem dX12_turn_37 : decode cX12_turn 37 = .ok (.getfield 7, 3) := by decide +kernel
theorem dX12_turn_40 : decode cX12_turn 40 = .ok (.bipush 10, 2) := by decide +kernel
theorem dX12_turn_42 : decode cX12_turn 42 = .ok (.aload_n 0, 1) := by decide +kernel
theorem dX12_turn_43 : decode cX12_turn 43 = .ok (.getfield 7, 3) := by decide +kernel
theorem dX12_turn_46 : decode cX12_turn 46 = .ok (.bipush 10, 2) := by decide +kernel
theorem dX12_turn_48 : decode cX12_turn 48 = .ok (.iaload, 1) := by decide +kernel
theorem dX12_turn_49 : decode cX12_turn 49 = .ok (.iconst 1, 1) := by decide +kernel
theorem dX12_turn_50 : decode cX12_turn 50 = .ok (.iload_n 1, 1) := by decide +kernel
theorem dX12_turn_51 : decode cX12_turn 51 = .ok (.ishl, 1) := by decide +kernel
theorem dX12_turn_52 : decode cX12_turn 52 = .ok (.iconst (-1), 1) := by decide +kernel
theorem dX12_turn_53 : decode cX12_turn 53 = .ok (.ixor, 1) := by decide +kernel
theorem dX12_turn_54 : decode cX12_turn 54 = .ok (.iand, 1) := by decide +kernel
theorem dX12_turn_55 : decode cX12_turn 55 = .ok (.iload_n 2, 1) := by decide +kernel
theorem dX12_turn_56 : decode cX12_turn 56 = .ok (.iload_n 1, 1) := by decide +kernel
theorem dX12_turn_57 : decode cX12_turn 57 = .ok (.ishl, 1) := by decide +kernel
theorem dX12_turn_58 : decode cX12_turn 58 = .ok (.ior, 1) := by decide +kernel
theorem dX12_turn_59 : decode cX12_turn 59 = .ok (.iastore, 1) := by decide +kernel
theorem dX12_turn_60 : decode cX12_turn 60 = .ok (.iload_n 3, 1) := by decide +kernel
theorem dX12_turn_61 : decode cX12_turn 61 = .ok (.ireturn, 1) := by decide +kernel
theorem dX12_freezesOf_0 : decode cX12_freezesOf 0 = .ok (.aload_n 0, 1) := by decide +kernel
theorem dX12_freezesOf_1 : decode cX12_freezesOf 1 = .ok (.bipush 20, 2) := by decide +kernel
theorem dX12_freezesOf_3 : decode cX12_freezesOf 3 = .ok (.iconst 2, 1) := by decide +kernel
theorem dX12_freezesOf_4 : decode cX12_freezesOf 4 = .ok (.iload_n 1, 1) := by decide +kernel
theorem dX12_freezesOf_5 : decode cX12_freezesOf 5 = .ok (.imul, 1) := by decide +kernel
theorem dX12_freezesOf_6 : decode cX12_freezesOf 6 = .ok (.iadd, 1) := by decide +kernel
theorem dX12_freezesOf_7 : decode cX12_freezesOf 7 = .ok (.iconst 1, 1) := by decide +kernel
theorem dX12_freezesOf_8 : decode cX12_freezesOf 8 = .ok (.iadd, 1) := by decide +kernel
theorem dX12_freezesOf_9 : decode cX12_freezesOf 9 = .ok (.iaload, 1) := by decide +kernel
theorem dX12_freezesOf_10 : decode cX12_freezesOf 10 = .ok (.istore 6, 2) := by decide +kernel
theorem dX12_freezesOf_12 : decode cX12_freezesOf 12 = .ok (.iload 6, 2) := by decide +kernel
theorem dX12_freezesOf_14 : decode cX12_freezesOf 14 = .ok (.iload 5, 2) := by decide +kernel
theorem dX12_freezesOf_16 : decode cX12_freezesOf 16 = .ok (.imul, 1) := by decide +kernel
theorem dX12_freezesOf_17 : decode cX12_freezesOf 17 = .ok (.bipush 100, 2) := by decide +kernel
theorem dX12_freezesOf_19 : decode cX12_freezesOf 19 = .ok (.idiv, 1) := by decide +kernel
theorem dX12_freezesOf_20 : decode cX12_freezesOf 20 = .ok (.istore 7, 2) := by decide +kernel
theorem dX12_freezesOf_22 : decode cX12_freezesOf 22 = .ok (.iload_n 2, 1) := by decide +kernel
theorem dX12_freezesOf_23 : decode cX12_freezesOf 23 = .ok (.aload_n 0, 1) := by decide +kernel
theorem dX12_freezesOf_24 : decode cX12_freezesOf 24 = .ok (.iconst 1, 1) := by decide +kernel
theorem dX12_freezesOf_25 : decode cX12_freezesOf 25 = .ok (.iaload, 1) := by decide +kernel
theorem dX12_freezesOf_26 : decode cX12_freezesOf 26 = .ok (.iconst 1, 1) := by decide +kernel
theorem dX12_freezesOf_27 : decode cX12_freezesOf 27 = .ok (.isub, 1) := by decide +kernel
theorem dX12_freezesOf_28 : decode cX12_freezesOf 28 = .ok (.if_icmp .ne 7, 3) := by decide +kernel
theorem dX12_freezesOf_31 : decode cX12_freezesOf 31 = .ok (.iconst 1, 1) := by decide +kernel
theorem dX12_freezesOf_32 : decode cX12_freezesOf 32 = .ok (.goto 4, 3) := by decide +kernel
theorem dX12_freezesOf_35 : decode cX12_freezesOf 35 = .ok (.iconst 0, 1) := by decide +kernel
theorem dX12_freezesOf_36 : decode cX12_freezesOf 36 = .ok (.istore 8, 2) := by decide +kernel
theorem dX12_freezesOf_38 : decode cX12_freezesOf 38 = .ok (.iload 7, 2) := by decide +kernel
theorem dX12_freezesOf_40 : decode cX12_freezesOf 40 = .ok (.bipush 10, 2) := by decide +kernel
theorem dX12_freezesOf_42 : decode cX12_freezesOf 42 = .ok (.aload_n 0, 1) := by decide +kernel
theorem dX12_freezesOf_43 : decode cX12_freezesOf 43 = .ok (.bipush 7, 2) := by decide +kernel
theorem dX12_freezesOf_45 : decode cX12_freezesOf 45 = .ok (.iaload, 1) := by decide +kernel
theorem dX12_freezesOf_46 : decode cX12_freezesOf 46 = .ok (.iadd, 1) := by decide +kernel
theorem dX12_freezesOf_47 : decode cX12_freezesOf 47 = .ok (.imul, 1) := by decide +kernel
theorem dX12_freezesOf_48 : decode cX12_freezesOf 48 = .ok (.bipush 10, 2) := by decide +kernel
theorem dX12_freezesOf_50 : decode cX12_freezesOf 50 = .ok (.idiv, 1) := by decide +kernel
theorem dX12_freezesOf_51 : decode cX12_freezesOf 51 = .ok (.istore 9, 2) := by decide +kernel
theorem dX12_freezesOf_53 : decode cX12_freezesOf 53 = .ok (.iload 9, 2) := by decide +kernel
theorem dX12_freezesOf_55 : decode cX12_freezesOf 55 = .ok (.iload 6, 2) := by decide +kernel
theorem dX12_freezesOf_57 : decode cX12_freezesOf 57 = .ok (.aload_n 0, 1) := by decide +kernel
theorem dX12_freezesOf_58 : decode cX12_freezesOf 58 = .ok (.iload_n 2, 1) := by decide +kernel
theorem dX12_freezesOf_59 : decode cX12_freezesOf 59 = .ok (.invokestatic 65, 3) := by decide +kernel
theorem dX12_freezesOf_62 : decode cX12_freezesOf 62 = .ok (.imul, 1) := by decide +kernel
theorem dX12_freezesOf_63 : decode cX12_freezesOf 63 = .ok (.bipush 100, 2) := by decide +kernel
theorem dX12_freezesOf_65 : decode cX12_freezesOf 65 = .ok (.idiv, 1) := by decide +kernel
theorem dX12_freezesOf_66 : decode cX12_freezesOf 66 = .ok (.iadd, 1) := by decide +kernel
theorem dX12_freezesOf_67 : decode cX12_freezesOf 67 = .ok (.istore 10, 2) := by decide +kernel
theorem dX12_freezesOf_69 : decode cX12_freezesOf 69 = .ok (.aload_n 0, 1) := by decide +kernel
theorem dX12_freezesOf_70 : decode cX12_freezesOf 70 = .ok (.bipush 20, 2) := by decide +kernel
theorem dX12_freezesOf_72 : decode cX12_freezesOf 72 = .ok (.iconst 2, 1) := by decide +kernel
theorem dX12_freezesOf_73 : decode cX12_freezesOf 73 = .ok (.iload_n 1, 1) := by decide +kernel
theorem dX12_freezesOf_74 : decode cX12_freezesOf 74 = .ok (.imul, 1) := by decide +kernel
theorem dX12_freezesOf_75 : decode cX12_freezesOf 75 = .ok (.iadd, 1) := by decide +kernel
theorem dX12_freezesOf_76 : decode cX12_freezesOf 76 = .ok (.iaload, 1) := by decide +kernel
theorem dX12_freezesOf_77 : decode cX12_freezesOf 77 = .ok (.tableswitch 142 1 6 #[39, 54, 57, 60, 80, 106], 39) := by decide +kernel
theorem dX12_freezesOf_116 : decode cX12_freezesOf 116 = .ok (.iload 8, 2) := by decide +kernel
theorem dX12_freezesOf_118 : decode cX12_freezesOf 118 = .ok (.ifCond .eq 11, 3) := by decide +kernel
theorem dX12_freezesOf_121 : decode cX12_freezesOf 121 = .ok (.bipush 10, 2) := by decide +kernel
theorem dX12_freezesOf_123 : decode cX12_freezesOf 123 = .ok (.iload 7, 2) := by decide +kernel
theorem dX12_freezesOf_125 : decode cX12_freezesOf 125 = .ok (.imul, 1) := by decide +kernel
theorem dX12_freezesOf_126 : decode cX12_freezesOf 126 = .ok (.goto 4, 3) := by decide +kernel
theorem dX12_freezesOf_129 : decode cX12_freezesOf 129 = .ok (.iconst 0, 1) := by decide +kernel
theorem dX12_freezesOf_130 : decode cX12_freezesOf 130 = .ok (.ireturn, 1) := by decide +kernel
theorem dX12_freezesOf_131 : decode cX12_freezesOf 131 = .ok (.iload 9, 2) := by decide +kernel
theorem dX12_freezesOf_133 : decode cX12_freezesOf 133 = .ok (.ireturn, 1) := by decide +kernel
theorem dX12_freezesOf_134 : decode cX12_freezesOf 134 = .ok (.iload 10, 2) := by decide +kernel
theorem dX12_freezesOf_136 : decode cX12_freezesOf 136 = .ok (.ireturn, 1) := by decide +kernel
theorem dX12_freezesOf_137 : decode cX12_freezesOf 137 = .ok (.iload 10, 2) := by decide +kernel
theorem dX12_freezesOf_139 : decode cX12_freezesOf 139 = .ok (.iload 6, 2) := by decide +kernel
theorem dX12_freezesOf_141 : decode cX12_freezesOf 141 = .ok (.iload 4, 2) := by decide +kernel
theorem dX12_freezesOf_143 : decode cX12_freezesOf 143 = .ok (.imul, 1) := by decide +kernel
theorem dX12_freezesOf_144 : decode cX12_freezesOf 144 = .ok (.iload_n 3, 1) := by decide +kernel
theorem dX12_freezesOf_145 : decode cX12_freezesOf 145 = .ok (.iconst 1, 1) := by decide +kernel
theorem dX12_freezesOf_146 : decode cX12_freezesOf 146 = .ok (.if_icmp .ge 7, 3) := by decide +kernel
theorem dX12_freezesOf_149 : decode cX12_freezesOf 149 = .ok (.iconst 1, 1) := by decide +kernel
theorem dX12_freezesOf_150 : decode cX12_freezesOf 150 = .ok (.goto 4, 3) := by decide +kernel
theorem dX12_freezesOf_153 : decode cX12_freezesOf 153 = .ok (.iload_n 3, 1) := by decide +kernel
theorem dX12_freezesOf_154 : decode cX12_freezesOf 154 = .ok (.idiv, 1) := by decide +kernel
theorem dX12_freezesOf_155 : decode cX12_freezesOf 155 = .ok (.isub, 1) := by decide +kernel
theorem dX12_freezesOf_156 : decode cX12_freezesOf 156 = .ok (.ireturn, 1) := by decide +kernel
theorem dX12_freezesOf_157 : decode cX12_freezesOf 157 = .ok (.iload_n 2, 1) := by decide +kernel
theorem dX12_freezesOf_158 : decode cX12_freezesOf 158 = .ok (.iconst 2, 1) := by decide +kernel
theorem dX12_freezesOf_159 : decode cX12_freezesOf 159 = .ok (.irem, 1) := by decide +kernel
theorem dX12_freezesOf_160 : decode cX12_freezesOf 160 = .ok (.iconst 1, 1) := by decide +kernel
theorem dX12_freezesOf_161 : decode cX12_freezesOf 161 = .ok (.if_icmp .ne 19, 3) := by decide +kernel
theorem dX12_freezesOf_164 : decode cX12_freezesOf 164 = .ok (.aload_n 0, 1) := by decide +kernel
theorem dX12_freezesOf_165 : decode cX12_freezesOf 165 = .ok (.bipush 7, 2) := by decide +kernel
theorem dX12_freezesOf_167 : decode cX12_freezesOf 167 = .ok (.iaload, 1) := by decide +kernel
theorem dX12_freezesOf_168 : decode cX12_freezesOf 168 = .ok (.bipush 20, 2) := by decide +kernel
theorem dX12_freezesOf_170 : decode cX12_freezesOf 170 = .ok (.if_icmp .le 10, 3) := by decide +kernel
theorem dX12_freezesOf_173 : decode cX12_freezesOf 173 = .ok (.iconst 2, 1) := by decide +kernel
theorem dX12_freezesOf_174 : decode cX12_freezesOf 174 = .ok (.iload 7, 2) := by decide +kernel
theorem dX12_freezesOf_176 : decode cX12_freezesOf 176 = .ok (.imul, 1) := by decide +kernel
theorem dX12_freezesOf_177 : decode cX12_freezesOf 177 = .ok (.goto 5, 3) := by decide +kernel
theorem dX12_freezesOf_180 : decode cX12_freezesOf 180 = .ok (.iload 7, 2) := by decide +kernel
theorem dX12_freezesOf_182 : decode cX12_freezesOf 182 = .ok (.ireturn, 1) := by decide +kernel
theorem dX12_freezesOf_183 : decode cX12_freezesOf 183 = .ok (.iload 8, 2) := by decide +kernel
theorem dX12_freezesOf_185 : decode cX12_freezesOf 185 = .ok (.ifCond .eq 11, 3) := by decide +kernel
theorem dX12_freezesOf_188 : decode cX12_freezesOf 188 = .ok (.bipush 10, 2) := by decide +kernel
theorem dX12_freezesOf_190 : decode cX12_freezesOf 190 = .ok (.iload 7, 2) := by decide +kernel
theorem dX12_freezesOf_192 : decode cX12_freezesOf 192 = .ok (.imul, 1) := by decide +kernel
theorem dX12_freezesOf_193 : decode cX12_freezesOf 193 = .ok (.goto 4, 3) := by decide +kernel
theorem dX12_freezesOf_196 : decode cX12_freezesOf 196 = .ok (.iconst 0, 1) := by decide +kernel
theorem dX12_freezesOf_197 : decode cX12_freezesOf 197 = .ok (.iload 8, 2) := by decide +kernel
theorem dX12_freezesOf_199 : decode cX12_freezesOf 199 = .ok (.ifCond .eq 17, 3) := by decide +kernel
theorem dX12_freezesOf_202 : decode cX12_freezesOf 202 = .ok (.aload_n 0, 1) := by decide +kernel
theorem dX12_freezesOf_203 : decode cX12_freezesOf 203 = .ok (.iconst 0, 1) := by decide +kernel
theorem dX12_freezesOf_204 : decode cX12_freezesOf 204 = .ok (.iaload, 1) := by decide +kernel
theorem dX12_freezesOf_205 : decode cX12_freezesOf 205 = .ok (.bipush 7, 2) := by decide +kernel
theorem dX12_freezesOf_207 : decode cX12_freezesOf 207 = .ok (.irem, 1) := by decide +kernel
theorem dX12_freezesOf_208 : decode cX12_freezesOf 208 = .ok (.ifCond .ne 8, 3) := by decide +kernel
theorem dX12_freezesOf_211 : decode cX12_freezesOf 211 = .ok (.iload 6, 2) := by decide +kernel
theorem dX12_freezesOf_213 : decode cX12_freezesOf 213 = .ok (.goto 4, 3) := by decide +kernel
theorem dX12_freezesOf_216 : decode cX12_freezesOf 216 = .ok (.iconst 0, 1) := by decide +kernel
theorem dX12_freezesOf_217 : decode cX12_freezesOf 217 = .ok (.iadd, 1) := by decide +kernel
theorem dX12_freezesOf_218 : decode cX12_freezesOf 218 = .ok (.ireturn, 1) := by decide +kernel
theorem dX12_freezesOf_219 : decode cX12_freezesOf 219 = .ok (.iload 7, 2) := by decide +kernel
theorem dX12_freezesOf_221 : decode cX12_freezesOf 221 = .ok (.ireturn, 1) := by decide +kernel
theorem dX12_freezes_0 : decode cX12_freezes 0 = .ok (.aload_n 0, 1) := by decide +kernel
theorem dX12_freezes_1 : decode cX12_freezes 1 = .ok (.iload_n 1, 1) := by decide +kernel
theorem dX12_freezes_2 : decode cX12_freezes 2 = .ok (.invokevirtual 92, 3) := by decide +kernel
theorem dX12_freezes_5 : decode cX12_freezes 5 = .ok (.ifCond .eq 36, 3) := by decide +kernel
theorem dX12_freezes_8 : decode cX12_freezes 8 = .ok (.aload_n 0, 1) := by decide +kernel
theorem dX12_freezes_9 : decode cX12_freezes 9 = .ok (.iload_n 2, 1) := by decide +kernel
theorem dX12_freezes_10 : decode cX12_freezes 10 = .ok (.invokevirtual 55, 3) := by decide +kernel
theorem dX12_freezes_13 : decode cX12_freezes 13 = .ok (.ifCond .eq 28, 3) := by decide +kernel
theorem dX12_freezes_16 : decode cX12_freezes 16 = .ok (.iload_n 3, 1) := by decide +kernel
theorem dX12_freezes_17 : decode cX12_freezes 17 = .ok (.i2l, 1) := by decide +kernel
theorem dX12_freezes_18 : decode cX12_freezes 18 = .ok (.lconst 0, 1) := by decide +kernel
theorem dX12_freezes_19 : decode cX12_freezes 19 = .ok (.ldc2_w 71, 3) := by decide +kernel
theorem dX12_freezes_22 : decode cX12_freezes 22 = .ok (.invokestatic 51, 3) := by decide +kernel
theorem dX12_freezes_25 : decode cX12_freezes 25 = .ok (.ifCond .eq 16, 3) := by decide +kernel
theorem dX12_freezes_28 : decode cX12_freezes 28 = .ok (.iload 4, 2) := by decide +kernel
theorem dX12_freezes_30 : decode cX12_freezes 30 = .ok (.i2l, 1) := by decide +kernel
theorem dX12_freezes_31 : decode cX12_freezes 31 = .ok (.lconst 0, 1) := by decide +kernel
theorem dX12_freezes_32 : decode cX12_freezes 32 = .ok (.ldc2_w 71, 3) := by decide +kernel
theorem dX12_freezes_35 : decode cX12_freezes 35 = .ok (.invokestatic 51, 3) := by decide +kernel
theorem dX12_freezes_38 : decode cX12_freezes 38 = .ok (.ifCond .ne 9, 3) := by decide +kernel
theorem dX12_freezes_41 : decode cX12_freezes 41 = .ok (.aload_n 0, 1) := by decide +kernel
theorem dX12_freezes_42 : decode cX12_freezes 42 = .ok (.iconst 1, 1) := by decide +kernel
theorem dX12_freezes_43 : decode cX12_freezes 43 = .ok (.invokevirtual 61, 3) := by decide +kernel
theorem dX12_freezes_46 : decode cX12_freezes 46 = .ok (.ireturn, 1) := by decide +kernel
theorem dX12_freezes_47 : decode cX12_freezes 47 = .ok (.aload_n 0, 1) := by decide +kernel
theorem dX12_freezes_48 : decode cX12_freezes 48 = .ok (.getfield 7, 3) := by decide +kernel
theorem dX12_freezes_51 : decode cX12_freezes 51 = .ok (.iload_n 1, 1) := by decide +kernel
theorem dX12_freezes_52 : decode cX12_freezes 52 = .ok (.iload_n 2, 1) := by decide +kernel
theorem dX12_freezes_53 : decode cX12_freezes 53 = .ok (.iload_n 3, 1) := by decide +kernel
theorem dX12_freezes_54 : decode cX12_freezes 54 = .ok (.iload 4, 2) := by decide +kernel
theorem dX12_freezes_56 : decode cX12_freezes 56 = .ok (.aload_n 0, 1) := by decide +kernel
theorem dX12_freezes_57 : decode cX12_freezes 57 = .ok (.aload_n 0, 1) := by decide +kernel
theorem dX12_freezes_58 : decode cX12_freezes 58 = .ok (.getfield 7, 3) := by decide +kernel
theorem dX12_freezes_61 : decode cX12_freezes 61 = .ok (.invokevirtual 98, 3) := by decide +kernel
theorem dX12_freezes_64 : decode cX12_freezes 64 = .ok (.invokestatic 102, 3) := by decide +kernel
theorem dX12_freezes_67 : decode cX12_freezes 67 = .ok (.ireturn, 1) := by decide +kernel
theorem dX12_here_0 : decode cX12_here 0 = .ok (.aload_n 0, 1) := by decide +kernel
theorem dX12_here_1 : decode cX12_here 1 = .ok (.getfield 106, 3) := by decide +kernel
theorem dX12_here_4 : decode cX12_here 4 = .ok (.aload_n 0, 1) := by decide +kernel
theorem dX12_here_5 : decode cX12_here 5 = .ok (.getfield 110, 3) := by decide +kernel
theorem dX12_here_8 : decode cX12_here 8 = .ok (.if_icmp .ge 27, 3) := by decide +kernel
theorem dX12_here_11 : decode cX12_here 11 = .ok (.aload_n 0, 1) := by decide +kernel
theorem dX12_here_12 : decode cX12_here 12 = .ok (.getfield 113, 3) := by decide +kernel
theorem dX12_here_15 : decode cX12_here 15 = .ok (.ifCond .ge 20, 3) := by decide +kernel
theorem dX12_here_18 : decode cX12_here 18 = .ok (.aload_n 0, 1) := by decide +kernel
theorem dX12_here_19 : decode cX12_here 19 = .ok (.getfield 7, 3) := by decide +kernel
theorem dX12_here_22 : decode cX12_here 22 = .ok (.aload_n 0, 1) := by decide +kernel
theorem dX12_here_23 : decode cX12_here 23 = .ok (.getfield 116, 3) := by decide +kernel
theorem dX12_here_26 : decode cX12_here 26 = .ok (.aload_n 0, 1) := by decide +kernel
theorem dX12_here_27 : decode cX12_here 27 = .ok (.getfield 106, 3) := by decide +kernel
theorem dX12_here_30 : decode cX12_here 30 = .ok (.iadd, 1) := by decide +kernel
theorem dX12_here_31 : decode cX12_here 31 = .ok (.iaload, 1) := by decide +kernel
theorem dX12_here_32 : decode cX12_here 32 = .ok (.goto 4, 3) := by decide +kernel
theorem dX12_here_35 : decode cX12_here 35 = .ok (.iconst (-1), 1) := by decide +kernel
theorem dX12_here_36 : decode cX12_here 36 = .ok (.ireturn, 1) := by decide +kernel
theorem dX12_wrong_0 : decode cX12_wrong 0 = .ok (.aload_n 0, 1) := by decide +kernel
theorem dX12_wrong_1 : decode cX12_wrong 1 = .ok (.aload_n 0, 1) := by decide +kernel
theorem dX12_wrong_2 : decode cX12_wrong 2 = .ok (.getfield 113, 3) := by decide +kernel
theorem dX12_wrong_5 : decode cX12_wrong 5 = .ok (.ifCond .ge 10, 3) := by decide +kernel
theorem dX12_wrong_8 : decode cX12_wrong 8 = .ok (.aload_n 0, 1) := by decide +kernel
theorem dX12_wrong_9 : decode cX12_wrong 9 = .ok (.getfield 106, 3) := by decide +kernel
theorem dX12_wrong_12 : decode cX12_wrong 12 = .ok (.goto 7, 3) := by decide +kernel
theorem dX12_wrong_15 : decode cX12_wrong 15 = .ok (.aload_n 0, 1) := by decide +kernel
theorem dX12_wrong_16 : decode cX12_wrong 16 = .ok (.getfield 113, 3) := by decide +kernel
theorem dX12_wrong_19 : decode cX12_wrong 19 = .ok (.putfield 113, 3) := by decide +kernel
theorem dX12_wrong_22 : decode cX12_wrong 22 = .ok (.iconst 0, 1) := by decide +kernel
theorem dX12_wrong_23 : decode cX12_wrong 23 = .ok (.ireturn, 1) := by decide +kernel
theorem dX12_takes_0 : decode cX12_takes 0 = .ok (.aload_n 0, 1) := by decide +kernel
theorem dX12_takes_1 : decode cX12_takes 1 = .ok (.invokevirtual 119, 3) := by decide +kernel
theorem dX12_takes_4 : decode cX12_takes 4 = .ok (.iload_n 1, 1) := by decide +kernel
theorem dX12_takes_5 : decode cX12_takes 5 = .ok (.if_icmp .eq 5, 3) := by decide +kernel
theorem dX12_takes_8 : decode cX12_takes 8 = .ok (.iconst 0, 1) := by decide +kernel
theorem dX12_takes_9 : decode cX12_takes 9 = .ok (.ireturn, 1) := by decide +kernel
theorem dX12_takes_10 : decode cX12_takes 10 = .ok (.aload_n 0, 1) := by decide +kernel
theorem dX12_takes_11 : decode cX12_takes 11 = .ok (.dup, 1) := by decide +kernel
theorem dX12_takes_12 : decode cX12_takes 12 = .ok (.getfield 106, 3) := by decide +kernel
theorem dX12_takes_15 : decode cX12_takes 15 = .ok (.iconst 1, 1) := by decide +kernel
theorem dX12_takes_16 : decode cX12_takes 16 = .ok (.iadd, 1) := by decide +kernel
theorem dX12_takes_17 : decode cX12_takes 17 = .ok (.putfield 106, 3) := by decide +kernel
theorem dX12_takes_20 : decode cX12_takes 20 = .ok (.iconst 1, 1) := by decide +kernel
theorem dX12_takes_21 : decode cX12_takes 21 = .ok (.ireturn, 1) := by decide +kernel
theorem dX12_nameOf_0 : decode cX12_nameOf 0 = .ok (.iload_n 1, 1) := by decide +kernel
theorem dX12_nameOf_1 : decode cX12_nameOf 1 = .ok (.bipush 116, 2) := by decide +kernel
theorem dX12_nameOf_3 : decode cX12_nameOf 3 = .ok (.if_icmp .ne 7, 3) := by decide +kernel
theorem dX12_nameOf_6 : decode cX12_nameOf 6 = .ok (.iconst 0, 1) := by decide +kernel
theorem dX12_nameOf_7 : decode cX12_nameOf 7 = .ok (.goto 24, 3) := by decide +kernel
theorem dX12_nameOf_10 : decode cX12_nameOf 10 = .ok (.iload_n 1, 1) := by decide +kernel
theorem dX12_nameOf_11 : decode cX12_nameOf 11 = .ok (.bipush 119, 2) := by decide +kernel
theorem dX12_nameOf_13 : decode cX12_nameOf 13 = .ok (.if_icmp .ne 7, 3) := by decide +kernel
theorem dX12_nameOf_16 : decode cX12_nameOf 16 = .ok (.iconst 1, 1) := by decide +kernel
theorem dX12_nameOf_17 : decode cX12_nameOf 17 = .ok (.goto 14, 3) := by decide +kernel
theorem dX12_nameOf_20 : decode cX12_nameOf 20 = .ok (.iload_n 1, 1) := by decide +kernel
theorem dX12_nameOf_21 : decode cX12_nameOf 21 = .ok (.bipush 99, 2) := by decide +kernel
theorem dX12_nameOf_23 : decode cX12_nameOf 23 = .ok (.if_icmp .ne 7, 3) := by decide +kernel
theorem dX12_nameOf_26 : decode cX12_nameOf 26 = .ok (.iconst 2, 1) := by decide +kernel
theorem dX12_nameOf_27 : decode cX12_nameOf 27 = .ok (.goto 4, 3) := by decide +kernel
theorem dX12_nameOf_30 : decode cX12_nameOf 30 = .ok (.iconst (-1), 1) := by decide +kernel
theorem dX12_nameOf_31 : decode cX12_nameOf 31 = .ok (.ireturn, 1) := by decide +kernel
theorem dX12_either_0 : decode cX12_either 0 = .ok (.aload_n 0, 1) := by decide +kernel
theorem dX12_either_1 : decode cX12_either 1 = .ok (.invokevirtual 123, 3) := by decide +kernel
theorem dX12_either_4 : decode cX12_either 4 = .ok (.istore_n 1, 1) := by decide +kernel
theorem dX12_either_5 : decode cX12_either 5 = .ok (.aload_n 0, 1) := by decide +kernel
theorem dX12_either_6 : decode cX12_either 6 = .ok (.bipush 124, 2) := by decide +kernel
theorem dX12_either_8 : decode cX12_either 8 = .ok (.invokevirtual 126, 3) := by decide +kernel
theorem dX12_either_11 : decode cX12_either 11 = .ok (.ifCond .eq 25, 3) := by decide +kernel
theorem dX12_either_14 : decode cX12_either 14 = .ok (.aload_n 0, 1) := by decide +kernel
theorem dX12_either_15 : decode cX12_either 15 = .ok (.invokevirtual 123, 3) := by decide +kernel
theorem dX12_either_18 : decode cX12_either 18 = .ok (.istore_n 2, 1) := by decide +kernel
theorem dX12_either_19 : decode cX12_either 19 = .ok (.iload_n 1, 1) := by decide +kernel
theorem dX12_either_20 : decode cX12_either 20 = .ok (.ifCond .ne 7, 3) := by decide +kernel
theorem dX12_either_23 : decode cX12_either 23 = .ok (.iload_n 2, 1) := by decide +kernel
theorem dX12_either_24 : decode cX12_either 24 = .ok (.ifCond .eq 7, 3) := by decide +kernel
theorem dX12_either_27 : decode cX12_either 27 = .ok (.iconst 1, 1) := by decide +kernel
theorem dX12_either_28 : decode cX12_either 28 = .ok (.goto 4, 3) := by decide +kernel
theorem dX12_either_31 : decode cX12_either 31 = .ok (.iconst 0, 1) := by decide +kernel
theorem dX12_either_32 : decode cX12_either 32 = .ok (.istore_n 1, 1) := by decide +kernel
theorem dX12_either_33 : decode cX12_either 33 = .ok (.goto (-28), 3) := by decide +kernel
theorem dX12_either_36 : decode cX12_either 36 = .ok (.iload_n 1, 1) := by decide +kernel
theorem dX12_either_37 : decode cX12_either 37 = .ok (.ireturn, 1) := by decide +kernel
theorem dX12_both_0 : decode cX12_both 0 = .ok (.aload_n 0, 1) := by decide +kernel
theorem dX12_both_1 : decode cX12_both 1 = .ok (.invokevirtual 129, 3) := by decide +kernel
theorem dX12_both_4 : decode cX12_both 4 = .ok (.istore_n 1, 1) := by decide +kernel
theorem dX12_both_5 : decode cX12_both 5 = .ok (.aload_n 0, 1) := by decide +kernel
theorem dX12_both_6 : decode cX12_both 6 = .ok (.bipush 38, 2) := by decide +kernel
theorem dX12_both_8 : decode cX12_both 8 = .ok (.invokevirtual 126, 3) := by decide +kernel
theorem dX12_both_11 : decode cX12_both 11 = .ok (.ifCond .eq 25, 3) := by decide +kernel
theorem dX12_both_14 : decode cX12_both 14 = .ok (.aload_n 0, 1) := by decide +kernel
theorem dX12_both_15 : decode cX12_both 15 = .ok (.invokevirtual 129, 3) := by decide +kernel
theorem dX12_both_18 : decode cX12_both 18 = .ok (.istore_n 2, 1) := by decide +kernel
theorem dX12_both_19 : decode cX12_both 19 = .ok (.iload_n 1, 1) := by decide +kernel
theorem dX12_both_20 : decode cX12_both 20 = .ok (.ifCond .eq 11, 3) := by decide +kernel
theorem dX12_both_23 : decode cX12_both 23 = .ok (.iload_n 2, 1) := by decide +kernel
theorem dX12_both_24 : decode cX12_both 24 = .ok (.ifCond .eq 7, 3) := by decide +kernel
theorem dX12_both_27 : decode cX12_both 27 = .ok (.iconst 1, 1) := by decide +kernel
theorem dX12_both_28 : decode cX12_both 28 = .ok (.goto 4, 3) := by decide +kernel
theorem dX12_both_31 : decode cX12_both 31 = .ok (.iconst 0, 1) := by decide +kernel
theorem dX12_both_32 : decode cX12_both 32 = .ok (.istore_n 1, 1) := by decide +kernel
theorem dX12_both_33 : decode cX12_both 33 = .ok (.goto (-28), 3) := by decide +kernel
theorem dX12_both_36 : decode cX12_both 36 = .ok (.iload_n 1, 1) := by decide +kernel
theorem dX12_both_37 : decode cX12_both 37 = .ok (.ireturn, 1) := by decide +kernel
theorem dX12_compared_0 : decode cX12_compared 0 = .ok (.aload_n 0, 1) := by decide +kernel
theorem dX12_compared_1 : decode cX12_compared 1 = .ok (.invokevirtual 132, 3) := by decide +kernel
theorem dX12_compared_4 : decode cX12_compared 4 = .ok (.istore_n 1, 1) := by decide +kernel
theorem dX12_compared_5 : decode cX12_compared 5 = .ok (.aload_n 0, 1) := by decide +kernel
theorem dX12_compared_6 : decode cX12_compared 6 = .ok (.invokevirtual 119, 3) := by decide +kernel
theorem dX12_compared_9 : decode cX12_compared 9 = .ok (.istore_n 2, 1) := by decide +kernel
theorem dX12_compared_10 : decode cX12_compared 10 = .ok (.iload_n 2, 1) := by decide +kernel
theorem dX12_compared_11 : decode cX12_compared 11 = .ok (.bipush 60, 2) := by decide +kernel
theorem dX12_compared_13 : decode cX12_compared 13 = .ok (.if_icmp .eq 17, 3) := by decide +kernel
theorem dX12_compared_16 : decode cX12_compared 16 = .ok (.iload_n 2, 1) := by decide +kernel
theorem dX12_compared_17 : decode cX12_compared 17 = .ok (.bipush 61, 2) := by decide +kernel
theorem dX12_compared_19 : decode cX12_compared 19 = .ok (.if_icmp .eq 11, 3) := by decide +kernel
theorem dX12_compared_22 : decode cX12_compared 22 = .ok (.iload_n 2, 1) := by decide +kernel
theorem dX12_compared_23 : decode cX12_compared 23 = .ok (.bipush 62, 2) := by decide +kernel
theorem dX12_compared_25 : decode cX12_compared 25 = .ok (.if_icmp .eq 5, 3) := by decide +kernel
theorem dX12_compared_28 : decode cX12_compared 28 = .ok (.iload_n 1, 1) := by decide +kernel
theorem dX12_compared_29 : decode cX12_compared 29 = .ok (.ireturn, 1) := by decide +kernel
theorem dX12_compared_30 : decode cX12_compared 30 = .ok (.aload_n 0, 1) := by decide +kernel
theorem dX12_compared_31 : decode cX12_compared 31 = .ok (.dup, 1) := by decide +kernel
theorem dX12_compared_32 : decode cX12_compared 32 = .ok (.getfield 106, 3) := by decide +kernel
theorem dX12_compared_35 : decode cX12_compared 35 = .ok (.iconst 1, 1) := by decide +kernel
theorem dX12_compared_36 : decode cX12_compared 36 = .ok (.iadd, 1) := by decide +kernel
theorem dX12_compared_37 : decode cX12_compared 37 = .ok (.putfield 106, 3) := by decide +kernel
theorem dX12_compared_40 : decode cX12_compared 40 = .ok (.aload_n 0, 1) := by decide +kernel
theorem dX12_compared_41 : decode cX12_compared 41 = .ok (.invokevirtual 132, 3) := by decide +kernel
theorem dX12_compared_44 : decode cX12_compared 44 = .ok (.istore_n 3, 1) := by decide +kernel
theorem dX12_compared_45 : decode cX12_compared 45 = .ok (.iload_n 2, 1) := by decide +kernel
theorem dX12_compared_46 : decode cX12_compared 46 = .ok (.bipush 60, 2) := by decide +kernel
theorem dX12_compared_48 : decode cX12_compared 48 = .ok (.if_icmp .ne 11, 3) := by decide +kernel
theorem dX12_compared_51 : decode cX12_compared 51 = .ok (.iload_n 1, 1) := by decide +kernel
theorem dX12_compared_52 : decode cX12_compared 52 = .ok (.iload_n 3, 1) := by decide +kernel
theorem dX12_compared_53 : decode cX12_compared 53 = .ok (.if_icmp .ge 29, 3) := by decide +kernel
theorem dX12_compared_56 : decode cX12_compared 56 = .ok (.goto 22, 3) := by decide +kernel
theorem dX12_compared_59 : decode cX12_compared 59 = .ok (.iload_n 2, 1) := by decide +kernel
theorem dX12_compared_60 : decode cX12_compared 60 = .ok (.bipush 61, 2) := by decide +kernel
theorem dX12_compared_62 : decode cX12_compared 62 = .ok (.if_icmp .ne 11, 3) := by decide +kernel
theorem dX12_compared_65 : decode cX12_compared 65 = .ok (.iload_n 1, 1) := by decide +kernel
theorem dX12_compared_66 : decode cX12_compared 66 = .ok (.iload_n 3, 1) := by decide +kernel
theorem dX12_compared_67 : decode cX12_compared 67 = .ok (.if_icmp .ne 15, 3) := by decide +kernel
theorem dX12_compared_70 : decode cX12_compared 70 = .ok (.goto 8, 3) := by decide +kernel
theorem dX12_compared_73 : decode cX12_compared 73 = .ok (.iload_n 1, 1) := by decide +kernel
theorem dX12_compared_74 : decode cX12_compared 74 = .ok (.iload_n 3, 1) := by decide +kernel
theorem dX12_compared_75 : decode cX12_compared 75 = .ok (.if_icmp .le 7, 3) := by decide +kernel
theorem dX12_compared_78 : decode cX12_compared 78 = .ok (.iconst 1, 1) := by decide +kernel
theorem dX12_compared_79 : decode cX12_compared 79 = .ok (.goto 4, 3) := by decide +kernel
theorem dX12_compared_82 : decode cX12_compared 82 = .ok (.iconst 0, 1) := by decide +kernel
theorem dX12_compared_83 : decode cX12_compared 83 = .ok (.ireturn, 1) := by decide +kernel
theorem dX12_sum_0 : decode cX12_sum 0 = .ok (.aload_n 0, 1) := by decide +kernel
theorem dX12_sum_1 : decode cX12_sum 1 = .ok (.invokevirtual 135, 3) := by decide +kernel
theorem dX12_sum_4 : decode cX12_sum 4 = .ok (.istore_n 1, 1) := by decide +kernel
theorem dX12_sum_5 : decode cX12_sum 5 = .ok (.aload_n 0, 1) := by decide +kernel
theorem dX12_sum_6 : decode cX12_sum 6 = .ok (.invokevirtual 119, 3) := by decide +kernel
theorem dX12_sum_9 : decode cX12_sum 9 = .ok (.bipush 43, 2) := by decide +kernel
theorem dX12_sum_11 : decode cX12_sum 11 = .ok (.if_icmp .eq 12, 3) := by decide +kernel
theorem dX12_sum_14 : decode cX12_sum 14 = .ok (.aload_n 0, 1) := by decide +kernel
theorem dX12_sum_15 : decode cX12_sum 15 = .ok (.invokevirtual 119, 3) := by decide +kernel
theorem dX12_sum_18 : decode cX12_sum 18 = .ok (.bipush 45, 2) := by decide +kernel
theorem dX12_sum_20 : decode cX12_sum 20 = .ok (.if_icmp .ne 42, 3) := by decide +kernel
theorem dX12_sum_23 : decode cX12_sum 23 = .ok (.aload_n 0, 1) := by decide +kernel
theorem dX12_sum_24 : decode cX12_sum 24 = .ok (.invokevirtual 119, 3) := by decide +kernel
theorem dX12_sum_27 : decode cX12_sum 27 = .ok (.istore_n 2, 1) := by decide +kernel
theorem dX12_sum_28 : decode cX12_sum 28 = .ok (.aload_n 0, 1) := by decide +kernel
theorem dX12_sum_29 : decode cX12_sum 29 = .ok (.dup, 1) := by decide +kernel
theorem dX12_sum_30 : decode cX12_sum 30 = .ok (.getfield 106, 3) := by decide +kernel
theorem dX12_sum_33 : decode cX12_sum 33 = .ok (.iconst 1, 1) := by decide +kernel
theorem dX12_sum_34 : decode cX12_sum 34 = .ok (.iadd, 1) := by decide +kernel
theorem dX12_sum_35 : decode cX12_sum 35 = .ok (.putfield 106, 3) := by decide +kernel
theorem dX12_sum_38 : decode cX12_sum 38 = .ok (.aload_n 0, 1) := by decide +kernel
theorem dX12_sum_39 : decode cX12_sum 39 = .ok (.invokevirtual 135, 3) := by decide +kernel
theorem dX12_sum_42 : decode cX12_sum 42 = .ok (.istore_n 3, 1) := by decide +kernel
theorem dX12_sum_43 : decode cX12_sum 43 = .ok (.iload_n 2, 1) := by decide +kernel
theorem dX12_sum_44 : decode cX12_sum 44 = .ok (.bipush 43, 2) := by decide +kernel
theorem dX12_sum_46 : decode cX12_sum 46 = .ok (.if_icmp .ne 9, 3) := by decide +kernel
theorem dX12_sum_49 : decode cX12_sum 49 = .ok (.iload_n 1, 1) := by decide +kernel
theorem dX12_sum_50 : decode cX12_sum 50 = .ok (.iload_n 3, 1) := by decide +kernel
theorem dX12_sum_51 : decode cX12_sum 51 = .ok (.iadd, 1) := by decide +kernel
theorem dX12_sum_52 : decode cX12_sum 52 = .ok (.goto 6, 3) := by decide +kernel
theorem dX12_sum_55 : decode cX12_sum 55 = .ok (.iload_n 1, 1) := by decide +kernel
theorem dX12_sum_56 : decode cX12_sum 56 = .ok (.iload_n 3, 1) := by decide +kernel
theorem dX12_sum_57 : decode cX12_sum 57 = .ok (.isub, 1) := by decide +kernel
theorem dX12_sum_58 : decode cX12_sum 58 = .ok (.istore_n 1, 1) := by decide +kernel
theorem dX12_sum_59 : decode cX12_sum 59 = .ok (.goto (-54), 3) := by decide +kernel
theorem dX12_sum_62 : decode cX12_sum 62 = .ok (.iload_n 1, 1) := by decide +kernel
theorem dX12_sum_63 : decode cX12_sum 63 = .ok (.ireturn, 1) := by decide +kernel
theorem dX12_product_0 : decode cX12_product 0 = .ok (.aload_n 0, 1) := by decide +kernel
theorem dX12_product_1 : decode cX12_product 1 = .ok (.invokevirtual 138, 3) := by decide +kernel
theorem dX12_product_4 : decode cX12_product 4 = .ok (.istore_n 1, 1) := by decide +kernel
theorem dX12_product_5 : decode cX12_product 5 = .ok (.aload_n 0, 1) := by decide +kernel
theorem dX12_product_6 : decode cX12_product 6 = .ok (.invokevirtual 119, 3) := by decide +kernel
theorem dX12_product_9 : decode cX12_product 9 = .ok (.bipush 42, 2) := by decide +kernel
theorem dX12_product_11 : decode cX12_product 11 = .ok (.if_icmp .eq 21, 3) := by decide +kernel
theorem dX12_product_14 : decode cX12_product 14 = .ok (.aload_n 0, 1) := by decide +kernel
theorem dX12_product_15 : decode cX12_product 15 = .ok (.invokevirtual 119, 3) := by decide +kernel
theorem dX12_product_18 : decode cX12_product 18 = .ok (.bipush 47, 2) := by decide +kernel
theorem dX12_product_20 : decode cX12_product 20 = .ok (.if_icmp .eq 12, 3) := by decide +kernel
theorem dX12_product_23 : decode cX12_product 23 = .ok (.aload_n 0, 1) := by decide +kernel
theorem dX12_product_24 : decode cX12_product 24 = .ok (.invokevirtual 119, 3) := by decide +kernel
theorem dX12_product_27 : decode cX12_product 27 = .ok (.bipush 37, 2) := by decide +kernel
theorem dX12_product_29 : decode cX12_product 29 = .ok (.if_icmp .ne 62, 3) := by decide +kernel
theorem dX12_product_32 : decode cX12_product 32 = .ok (.aload_n 0, 1) := by decide +kernel
theorem dX12_product_33 : decode cX12_product 33 = .ok (.invokevirtual 119, 3) := by decide +kernel
theorem dX12_product_36 : decode cX12_product 36 = .ok (.istore_n 2, 1) := by decide +kernel
theorem dX12_product_37 : decode cX12_product 37 = .ok (.aload_n 0, 1) := by decide +kernel
theorem dX12_product_38 : decode cX12_product 38 = .ok (.dup, 1) := by decide +kernel
theorem dX12_product_39 : decode cX12_product 39 = .ok (.getfield 106, 3) := by decide +kernel
theorem dX12_product_42 : decode cX12_product 42 = .ok (.iconst 1, 1) := by decide +kernel
theorem dX12_product_43 : decode cX12_product 43 = .ok (.iadd, 1) := by decide +kernel
theorem dX12_product_44 : decode cX12_product 44 = .ok (.putfield 106, 3) := by decide +kernel
theorem dX12_product_47 : decode cX12_product 47 = .ok (.aload_n 0, 1) := by decide +kernel
theorem dX12_product_48 : decode cX12_product 48 = .ok (.invokevirtual 138, 3) := by decide +kernel
theorem dX12_product_51 : decode cX12_product 51 = .ok (.istore_n 3, 1) := by decide +kernel
theorem dX12_product_52 : decode cX12_product 52 = .ok (.iload_n 2, 1) := by decide +kernel
theorem dX12_product_53 : decode cX12_product 53 = .ok (.bipush 42, 2) := by decide +kernel
theorem dX12_product_55 : decode cX12_product 55 = .ok (.if_icmp .ne 9, 3) := by decide +kernel
theorem dX12_product_58 : decode cX12_product 58 = .ok (.iload_n 1, 1) := by decide +kernel
theorem dX12_product_59 : decode cX12_product 59 = .ok (.iload_n 3, 1) := by decide +kernel
theorem dX12_product_60 : decode cX12_product 60 = .ok (.imul, 1) := by decide +kernel
theorem dX12_product_61 : decode cX12_product 61 = .ok (.goto 26, 3) := by decide +kernel
theorem dX12_product_64 : decode cX12_product 64 = .ok (.iload_n 3, 1) := by decide +kernel
theorem dX12_product_65 : decode cX12_product 65 = .ok (.ifCond .ne 7, 3) := by decide +kernel
theorem dX12_product_68 : decode cX12_product 68 = .ok (.iconst 0, 1) := by decide +kernel
theorem dX12_product_69 : decode cX12_product 69 = .ok (.goto 18, 3) := by decide +kernel
theorem dX12_product_72 : decode cX12_product 72 = .ok (.iload_n 2, 1) := by decide +kernel
theorem dX12_product_73 : decode cX12_product 73 = .ok (.bipush 47, 2) := by decide +kernel
theorem dX12_product_75 : decode cX12_product 75 = .ok (.if_icmp .ne 9, 3) := by decide +kernel
theorem dX12_product_78 : decode cX12_product 78 = .ok (.iload_n 1, 1) := by decide +kernel
theorem dX12_product_79 : decode cX12_product 79 = .ok (.iload_n 3, 1) := by decide +kernel
theorem dX12_product_80 : decode cX12_product 80 = .ok (.idiv, 1) := by decide +kernel
theorem dX12_product_81 : decode cX12_product 81 = .ok (.goto 6, 3) := by decide +kernel
theorem dX12_product_84 : decode cX12_product 84 = .ok (.iload_n 1, 1) := by decide +kernel
theorem dX12_product_85 : decode cX12_product 85 = .ok (.iload_n 3, 1) := by decide +kernel
theorem dX12_product_86 : decode cX12_product 86 = .ok (.irem, 1) := by decide +kernel
theorem dX12_product_87 : decode cX12_product 87 = .ok (.istore_n 1, 1) := by decide +kernel
theorem dX12_product_88 : decode cX12_product 88 = .ok (.goto (-83), 3) := by decide +kernel
theorem dX12_product_91 : decode cX12_product 91 = .ok (.iload_n 1, 1) := by decide +kernel
theorem dX12_product_92 : decode cX12_product 92 = .ok (.ireturn, 1) := by decide +kernel
theorem dX12_unit_0 : decode cX12_unit 0 = .ok (.aload_n 0, 1) := by decide +kernel
theorem dX12_unit_1 : decode cX12_unit 1 = .ok (.invokevirtual 119, 3) := by decide +kernel
theorem dX12_unit_4 : decode cX12_unit 4 = .ok (.istore_n 1, 1) := by decide +kernel
theorem dX12_unit_5 : decode cX12_unit 5 = .ok (.iload_n 1, 1) := by decide +kernel
theorem dX12_unit_6 : decode cX12_unit 6 = .ok (.bipush 33, 2) := by decide +kernel
theorem dX12_unit_8 : decode cX12_unit 8 = .ok (.if_icmp .eq 9, 3) := by decide +kernel
theorem dX12_unit_11 : decode cX12_unit 11 = .ok (.iload_n 1, 1) := by decide +kernel
theorem dX12_unit_12 : decode cX12_unit 12 = .ok (.bipush 40, 2) := by decide +kernel
theorem dX12_unit_14 : decode cX12_unit 14 = .ok (.if_icmp .ne 104, 3) := by decide +kernel
theorem dX12_unit_17 : decode cX12_unit 17 = .ok (.aload_n 0, 1) := by decide +kernel
theorem dX12_unit_18 : decode cX12_unit 18 = .ok (.getfield 141, 3) := by decide +kernel
theorem dX12_unit_21 : decode cX12_unit 21 = .ok (.iconst 5, 1) := by decide +kernel
theorem dX12_unit_22 : decode cX12_unit 22 = .ok (.if_icmp .ne 8, 3) := by decide +kernel
theorem dX12_unit_25 : decode cX12_unit 25 = .ok (.aload_n 0, 1) := by decide +kernel
theorem dX12_unit_26 : decode cX12_unit 26 = .ok (.invokevirtual 144, 3) := by decide +kernel
theorem dX12_unit_29 : decode cX12_unit 29 = .ok (.ireturn, 1) := by decide +kernel
theorem dX12_unit_30 : decode cX12_unit 30 = .ok (.aload_n 0, 1) := by decide +kernel
theorem dX12_unit_31 : decode cX12_unit 31 = .ok (.dup, 1) := by decide +kernel
theorem dX12_unit_32 : decode cX12_unit 32 = .ok (.getfield 141, 3) := by decide +kernel
theorem dX12_unit_35 : decode cX12_unit 35 = .ok (.iconst 1, 1) := by decide +kernel
theorem dX12_unit_36 : decode cX12_unit 36 = .ok (.iadd, 1) := by decide +kernel
theorem dX12_unit_37 : decode cX12_unit 37 = .ok (.putfield 141, 3) := by decide +kernel
theorem dX12_unit_40 : decode cX12_unit 40 = .ok (.aload_n 0, 1) := by decide +kernel
theorem dX12_unit_41 : decode cX12_unit 41 = .ok (.dup, 1) := by decide +kernel
theorem dX12_unit_42 : decode cX12_unit 42 = .ok (.getfield 106, 3) := by decide +kernel
theorem dX12_unit_45 : decode cX12_unit 45 = .ok (.iconst 1, 1) := by decide +kernel
theorem dX12_unit_46 : decode cX12_unit 46 = .ok (.iadd, 1) := by decide +kernel
theorem dX12_unit_47 : decode cX12_unit 47 = .ok (.putfield 106, 3) := by decide +kernel
theorem dX12_unit_50 : decode cX12_unit 50 = .ok (.iload_n 1, 1) := by decide +kernel
theorem dX12_unit_51 : decode cX12_unit 51 = .ok (.bipush 40, 2) := by decide +kernel
theorem dX12_unit_53 : decode cX12_unit 53 = .ok (.if_icmp .ne 10, 3) := by decide +kernel
theorem dX12_unit_56 : decode cX12_unit 56 = .ok (.aload_n 0, 1) := by decide +kernel
theorem dX12_unit_57 : decode cX12_unit 57 = .ok (.invokevirtual 147, 3) := by decide +kernel
theorem dX12_unit_60 : decode cX12_unit 60 = .ok (.goto 7, 3) := by decide +kernel
theorem dX12_unit_63 : decode cX12_unit 63 = .ok (.aload_n 0, 1) := by decide +kernel
theorem dX12_unit_64 : decode cX12_unit 64 = .ok (.invokevirtual 138, 3) := by decide +kernel
theorem dX12_unit_67 : decode cX12_unit 67 = .ok (.istore_n 2, 1) := by decide +kernel
theorem dX12_unit_68 : decode cX12_unit 68 = .ok (.iload_n 1, 1) := by decide +kernel
theorem dX12_unit_69 : decode cX12_unit 69 = .ok (.bipush 40, 2) := by decide +kernel
theorem dX12_unit_71 : decode cX12_unit 71 = .ok (.if_icmp .ne 17, 3) := by decide +kernel
theorem dX12_unit_74 : decode cX12_unit 74 = .ok (.aload_n 0, 1) := by decide +kernel
theorem dX12_unit_75 : decode cX12_unit 75 = .ok (.bipush 41, 2) := by decide +kernel
theorem dX12_unit_77 : decode cX12_unit 77 = .ok (.invokevirtual 126, 3) := by decide +kernel
theorem dX12_unit_80 : decode cX12_unit 80 = .ok (.ifCond .ne 8, 3) := by decide +kernel
theorem dX12_unit_83 : decode cX12_unit 83 = .ok (.aload_n 0, 1) := by decide +kernel
theorem dX12_unit_84 : decode cX12_unit 84 = .ok (.invokevirtual 144, 3) := by decide +kernel
theorem dX12_unit_87 : decode cX12_unit 87 = .ok (.ireturn, 1) := by decide +kernel
theorem dX12_unit_88 : decode cX12_unit 88 = .ok (.aload_n 0, 1) := by decide +kernel
theorem dX12_unit_89 : decode cX12_unit 89 = .ok (.dup, 1) := by decide +kernel
theorem dX12_unit_90 : decode cX12_unit 90 = .ok (.getfield 141, 3) := by decide +kernel
theorem dX12_unit_93 : decode cX12_unit 93 = .ok (.iconst 1, 1) := by decide +kernel
theorem dX12_unit_94 : decode cX12_unit 94 = .ok (.isub, 1) := by decide +kernel
theorem dX12_unit_95 : decode cX12_unit 95 = .ok (.putfield 141, 3) := by decide +kernel
theorem dX12_unit_98 : decode cX12_unit 98 = .ok (.iload_n 1, 1) := by decide +kernel
theorem dX12_unit_99 : decode cX12_unit 99 = .ok (.bipush 40, 2) := by decide +kernel
theorem dX12_unit_101 : decode cX12_unit 101 = .ok (.if_icmp .ne 7, 3) := by decide +kernel
theorem dX12_unit_104 : decode cX12_unit 104 = .ok (.iload_n 2, 1) := by decide +kernel
theorem dX12_unit_105 : decode cX12_unit 105 = .ok (.goto 12, 3) := by decide +kernel
theorem dX12_unit_108 : decode cX12_unit 108 = .ok (.iload_n 2, 1) := by decide +kernel
theorem dX12_unit_109 : decode cX12_unit 109 = .ok (.ifCond .ne 7, 3) := by decide +kernel
theorem dX12_unit_112 : decode cX12_unit 112 = .ok (.iconst 1, 1) := by decide +kernel
theorem dX12_unit_113 : decode cX12_unit 113 = .ok (.goto 4, 3) := by decide +kernel
theorem dX12_unit_116 : decode cX12_unit 116 = .ok (.iconst 0, 1) := by decide +kernel
theorem dX12_unit_117 : decode cX12_unit 117 = .ok (.ireturn, 1) := by decide +kernel
theorem dX12_unit_118 : decode cX12_unit 118 = .ok (.aload_n 0, 1) := by decide +kernel
theorem dX12_unit_119 : decode cX12_unit 119 = .ok (.iload_n 1, 1) := by decide +kernel
theorem dX12_unit_120 : decode cX12_unit 120 = .ok (.invokevirtual 150, 3) := by decide +kernel
theorem dX12_unit_123 : decode cX12_unit 123 = .ok (.istore_n 2, 1) := by decide +kernel
theorem dX12_unit_124 : decode cX12_unit 124 = .ok (.iload_n 2, 1) := by decide +kernel
theorem dX12_unit_125 : decode cX12_unit 125 = .ok (.ifCond .lt 20, 3) := by decide +kernel
theorem dX12_unit_128 : decode cX12_unit 128 = .ok (.aload_n 0, 1) := by decide +kernel
theorem dX12_unit_129 : decode cX12_unit 129 = .ok (.dup, 1) := by decide +kernel
theorem dX12_unit_130 : decode cX12_unit 130 = .ok (.getfield 106, 3) := by decide +kernel
theorem dX12_unit_133 : decode cX12_unit 133 = .ok (.iconst 1, 1) := by decide +kernel
theorem dX12_unit_134 : decode cX12_unit 134 = .ok (.iadd, 1) := by decide +kernel
theorem dX12_unit_135 : decode cX12_unit 135 = .ok (.putfield 106, 3) := by decide +kernel
theorem dX12_unit_138 : decode cX12_unit 138 = .ok (.aload_n 0, 1) := by decide +kernel
theorem dX12_unit_139 : decode cX12_unit 139 = .ok (.getfield 22, 3) := by decide +kernel
theorem dX12_unit_142 : decode cX12_unit 142 = .ok (.iload_n 2, 1) := by decide +kernel
theorem dX12_unit_143 : decode cX12_unit 143 = .ok (.iaload, 1) := by decide +kernel
theorem dX12_unit_144 : decode cX12_unit 144 = .ok (.ireturn, 1) := by decide +kernel
theorem dX12_unit_145 : decode cX12_unit 145 = .ok (.iconst 0, 1) := by decide +kernel
theorem dX12_unit_146 : decode cX12_unit 146 = .ok (.istore_n 3, 1) := by decide +kernel
theorem dX12_unit_147 : decode cX12_unit 147 = .ok (.iconst 0, 1) := by decide +kernel
theorem dX12_unit_148 : decode cX12_unit 148 = .ok (.istore 4, 2) := by decide +kernel
theorem dX12_unit_150 : decode cX12_unit 150 = .ok (.iload 4, 2) := by decide +kernel
theorem dX12_unit_152 : decode cX12_unit 152 = .ok (.iconst 4, 1) := by decide +kernel
theorem dX12_unit_153 : decode cX12_unit 153 = .ok (.if_icmp .ge 49, 3) := by decide +kernel
theorem dX12_unit_156 : decode cX12_unit 156 = .ok (.aload_n 0, 1) := by decide +kernel
theorem dX12_unit_157 : decode cX12_unit 157 = .ok (.invokevirtual 119, 3) := by decide +kernel
theorem dX12_unit_160 : decode cX12_unit 160 = .ok (.i2l, 1) := by decide +kernel
theorem dX12_unit_161 : decode cX12_unit 161 = .ok (.ldc2_w 153, 3) := by decide +kernel
theorem dX12_unit_164 : decode cX12_unit 164 = .ok (.ldc2_w 155, 3) := by decide +kernel
theorem dX12_unit_167 : decode cX12_unit 167 = .ok (.invokestatic 51, 3) := by decide +kernel
theorem dX12_unit_170 : decode cX12_unit 170 = .ok (.ifCond .eq 32, 3) := by decide +kernel
theorem dX12_unit_173 : decode cX12_unit 173 = .ok (.bipush 10, 2) := by decide +kernel
theorem dX12_unit_175 : decode cX12_unit 175 = .ok (.iload_n 3, 1) := by decide +kernel
theorem dX12_unit_176 : decode cX12_unit 176 = .ok (.imul, 1) := by decide +kernel
theorem dX12_unit_177 : decode cX12_unit 177 = .ok (.aload_n 0, 1) := by decide +kernel
theorem dX12_unit_178 : decode cX12_unit 178 = .ok (.invokevirtual 119, 3) := by decide +kernel
theorem dX12_unit_181 : decode cX12_unit 181 = .ok (.iadd, 1) := by decide +kernel
theorem dX12_unit_182 : decode cX12_unit 182 = .ok (.bipush 48, 2) := by decide +kernel
theorem dX12_unit_184 : decode cX12_unit 184 = .ok (.isub, 1) := by decide +kernel
theorem dX12_unit_185 : decode cX12_unit 185 = .ok (.istore_n 3, 1) := by decide +kernel
theorem dX12_unit_186 : decode cX12_unit 186 = .ok (.aload_n 0, 1) := by decide +kernel
theorem dX12_unit_187 : decode cX12_unit 187 = .ok (.dup, 1) := by decide +kernel
theorem dX12_unit_188 : decode cX12_unit 188 = .ok (.getfield 106, 3) := by decide +kernel
theorem dX12_unit_191 : decode cX12_unit 191 = .ok (.iconst 1, 1) := by decide +kernel
theorem dX12_unit_192 : decode cX12_unit 192 = .ok (.iadd, 1) := by decide +kernel
theorem dX12_unit_193 : decode cX12_unit 193 = .ok (.putfield 106, 3) := by decide +kernel
theorem dX12_unit_196 : decode cX12_unit 196 = .ok (.iinc 4 1, 3) := by decide +kernel
theorem dX12_unit_199 : decode cX12_unit 199 = .ok (.goto (-49), 3) := by decide +kernel
theorem dX12_unit_202 : decode cX12_unit 202 = .ok (.iload 4, 2) := by decide +kernel
theorem dX12_unit_204 : decode cX12_unit 204 = .ok (.ifCond .ne 10, 3) := by decide +kernel
theorem dX12_unit_207 : decode cX12_unit 207 = .ok (.aload_n 0, 1) := by decide +kernel
theorem dX12_unit_208 : decode cX12_unit 208 = .ok (.invokevirtual 144, 3) := by decide +kernel
theorem dX12_unit_211 : decode cX12_unit 211 = .ok (.goto 4, 3) := by decide +kernel
theorem dX12_unit_214 : decode cX12_unit 214 = .ok (.iload_n 3, 1) := by decide +kernel
theorem dX12_unit_215 : decode cX12_unit 215 = .ok (.ireturn, 1) := by decide +kernel
theorem dX12_worked_0 : decode cX12_worked 0 = .ok (.aload_n 0, 1) := by decide +kernel
theorem dX12_worked_1 : decode cX12_worked 1 = .ok (.iload_n 1, 1) := by decide +kernel
theorem dX12_worked_2 : decode cX12_worked 2 = .ok (.putfield 116, 3) := by decide +kernel
theorem dX12_worked_5 : decode cX12_worked 5 = .ok (.aload_n 0, 1) := by decide +kernel
theorem dX12_worked_6 : decode cX12_worked 6 = .ok (.iconst 0, 1) := by decide +kernel
theorem dX12_worked_7 : decode cX12_worked 7 = .ok (.putfield 106, 3) := by decide +kernel
theorem dX12_worked_10 : decode cX12_worked 10 = .ok (.aload_n 0, 1) := by decide +kernel
theorem dX12_worked_11 : decode cX12_worked 11 = .ok (.iload_n 2, 1) := by decide +kernel
theorem dX12_worked_12 : decode cX12_worked 12 = .ok (.putfield 110, 3) := by decide +kernel
theorem dX12_worked_15 : decode cX12_worked 15 = .ok (.aload_n 0, 1) := by decide +kernel
theorem dX12_worked_16 : decode cX12_worked 16 = .ok (.iconst (-1), 1) := by decide +kernel
theorem dX12_worked_17 : decode cX12_worked 17 = .ok (.putfield 113, 3) := by decide +kernel
theorem dX12_worked_20 : decode cX12_worked 20 = .ok (.aload_n 0, 1) := by decide +kernel
theorem dX12_worked_21 : decode cX12_worked 21 = .ok (.iconst 0, 1) := by decide +kernel
theorem dX12_worked_22 : decode cX12_worked 22 = .ok (.putfield 141, 3) := by decide +kernel
theorem dX12_worked_25 : decode cX12_worked 25 = .ok (.aload_n 0, 1) := by decide +kernel
theorem dX12_worked_26 : decode cX12_worked 26 = .ok (.invokevirtual 147, 3) := by decide +kernel
theorem dX12_worked_29 : decode cX12_worked 29 = .ok (.istore_n 3, 1) := by decide +kernel
theorem dX12_worked_30 : decode cX12_worked 30 = .ok (.aload_n 0, 1) := by decide +kernel
theorem dX12_worked_31 : decode cX12_worked 31 = .ok (.getfield 113, 3) := by decide +kernel
theorem dX12_worked_34 : decode cX12_worked 34 = .ok (.ifCond .ge 19, 3) := by decide +kernel
theorem dX12_worked_37 : decode cX12_worked 37 = .ok (.aload_n 0, 1) := by decide +kernel
theorem dX12_worked_38 : decode cX12_worked 38 = .ok (.getfield 106, 3) := by decide +kernel
theorem dX12_worked_41 : decode cX12_worked 41 = .ok (.aload_n 0, 1) := by decide +kernel
theorem dX12_worked_42 : decode cX12_worked 42 = .ok (.getfield 110, 3) := by decide +kernel
theorem dX12_worked_45 : decode cX12_worked 45 = .ok (.if_icmp .ge 8, 3) := by decide +kernel
theorem dX12_worked_48 : decode cX12_worked 48 = .ok (.aload_n 0, 1) := by decide +kernel
theorem dX12_worked_49 : decode cX12_worked 49 = .ok (.invokevirtual 144, 3) := by decide +kernel
theorem dX12_worked_52 : decode cX12_worked 52 = .ok (.ireturn, 1) := by decide +kernel
theorem dX12_worked_53 : decode cX12_worked 53 = .ok (.iload_n 3, 1) := by decide +kernel
theorem dX12_worked_54 : decode cX12_worked 54 = .ok (.ireturn, 1) := by decide +kernel
theorem dX12_feed_0 : decode cX12_feed 0 = .ok (.iload_n 3, 1) := by decide +kernel
theorem dX12_feed_1 : decode cX12_feed 1 = .ok (.i2l, 1) := by decide +kernel
theorem dX12_feed_2 : decode cX12_feed 2 = .ok (.lconst 1, 1) := by decide +kernel
theorem dX12_feed_3 : decode cX12_feed 3 = .ok (.ldc2_w 157, 3) := by decide +kernel
theorem dX12_feed_6 : decode cX12_feed 6 = .ok (.invokestatic 51, 3) := by decide +kernel
theorem dX12_feed_9 : decode cX12_feed 9 = .ok (.ifCond .ne 9, 3) := by decide +kernel
theorem dX12_feed_12 : decode cX12_feed 12 = .ok (.aload_n 0, 1) := by decide +kernel
theorem dX12_feed_13 : decode cX12_feed 13 = .ok (.iconst 1, 1) := by decide +kernel
theorem dX12_feed_14 : decode cX12_feed 14 = .ok (.invokevirtual 61, 3) := by decide +kernel
theorem dX12_feed_17 : decode cX12_feed 17 = .ok (.ireturn, 1) := by decide +kernel
theorem dX12_feed_18 : decode cX12_feed 18 = .ok (.aload_n 0, 1) := by decide +kernel
theorem dX12_feed_19 : decode cX12_feed 19 = .ok (.getfield 7, 3) := by decide +kernel
theorem dX12_feed_22 : decode cX12_feed 22 = .ok (.bipush 14, 2) := by decide +kernel
theorem dX12_feed_24 : decode cX12_feed 24 = .ok (.iaload, 1) := by decide +kernel
theorem dX12_feed_25 : decode cX12_feed 25 = .ok (.iload_n 3, 1) := by decide +kernel
theorem dX12_feed_26 : decode cX12_feed 26 = .ok (.iadd, 1) := by decide +kernel
theorem dX12_feed_27 : decode cX12_feed 27 = .ok (.bipush 50, 2) := by decide +kernel
theorem dX12_feed_29 : decode cX12_feed 29 = .ok (.if_icmp .le 9, 3) := by decide +kernel
theorem dX12_feed_32 : decode cX12_feed 32 = .ok (.aload_n 0, 1) := by decide +kernel
theorem dX12_feed_33 : decode cX12_feed 33 = .ok (.iconst 4, 1) := by decide +kernel
theorem dX12_feed_34 : decode cX12_feed 34 = .ok (.invokevirtual 61, 3) := by decide +kernel
theorem dX12_feed_37 : decode cX12_feed 37 = .ok (.ireturn, 1) := by decide +kernel
theorem dX12_feed_38 : decode cX12_feed 38 = .ok (.iconst 0, 1) := by decide +kernel
theorem dX12_feed_39 : decode cX12_feed 39 = .ok (.istore 4, 2) := by decide +kernel
theorem dX12_feed_41 : decode cX12_feed 41 = .ok (.iload 4, 2) := by decide +kernel
theorem dX12_feed_43 : decode cX12_feed 43 = .ok (.iload_n 3, 1) := by decide +kernel
theorem dX12_feed_44 : decode cX12_feed 44 = .ok (.if_icmp .ge 48, 3) := by decide +kernel
theorem dX12_feed_47 : decode cX12_feed 47 = .ok (.aload_n 0, 1) := by decide +kernel
theorem dX12_feed_48 : decode cX12_feed 48 = .ok (.getfield 7, 3) := by decide +kernel
theorem dX12_feed_51 : decode cX12_feed 51 = .ok (.sipush 280, 3) := by decide +kernel
theorem dX12_feed_54 : decode cX12_feed 54 = .ok (.aload_n 0, 1) := by decide +kernel
theorem dX12_feed_55 : decode cX12_feed 55 = .ok (.getfield 7, 3) := by decide +kernel
theorem dX12_feed_58 : decode cX12_feed 58 = .ok (.bipush 14, 2) := by decide +kernel
theorem dX12_feed_60 : decode cX12_feed 60 = .ok (.iaload, 1) := by decide +kernel
theorem dX12_feed_61 : decode cX12_feed 61 = .ok (.iadd, 1) := by decide +kernel
theorem dX12_feed_62 : decode cX12_feed 62 = .ok (.lload_n 1, 1) := by decide +kernel
theorem dX12_feed_63 : decode cX12_feed 63 = .ok (.bipush 8, 2) := by decide +kernel
theorem dX12_feed_65 : decode cX12_feed 65 = .ok (.iload 4, 2) := by decide +kernel
theorem dX12_feed_67 : decode cX12_feed 67 = .ok (.imul, 1) := by decide +kernel
theorem dX12_feed_68 : decode cX12_feed 68 = .ok (.lshr, 1) := by decide +kernel
theorem dX12_feed_69 : decode cX12_feed 69 = .ok (.ldc2_w 159, 3) := by decide +kernel
theorem dX12_feed_72 : decode cX12_feed 72 = .ok (.land, 1) := by decide +kernel
theorem dX12_feed_73 : decode cX12_feed 73 = .ok (.l2i, 1) := by decide +kernel
theorem dX12_feed_74 : decode cX12_feed 74 = .ok (.iastore, 1) := by decide +kernel
theorem dX12_feed_75 : decode cX12_feed 75 = .ok (.aload_n 0, 1) := by decide +kernel
theorem dX12_feed_76 : decode cX12_feed 76 = .ok (.getfield 7, 3) := by decide +kernel
theorem dX12_feed_79 : decode cX12_feed 79 = .ok (.bipush 14, 2) := by decide +kernel
theorem dX12_feed_81 : decode cX12_feed 81 = .ok (.dup2, 1) := by decide +kernel
theorem dX12_feed_82 : decode cX12_feed 82 = .ok (.iaload, 1) := by decide +kernel
theorem dX12_feed_83 : decode cX12_feed 83 = .ok (.iconst 1, 1) := by decide +kernel
theorem dX12_feed_84 : decode cX12_feed 84 = .ok (.iadd, 1) := by decide +kernel
theorem dX12_feed_85 : decode cX12_feed 85 = .ok (.iastore, 1) := by decide +kernel
theorem dX12_feed_86 : decode cX12_feed 86 = .ok (.iinc 4 1, 3) := by decide +kernel
theorem dX12_feed_89 : decode cX12_feed 89 = .ok (.goto (-48), 3) := by decide +kernel
theorem dX12_feed_92 : decode cX12_feed 92 = .ok (.aload_n 0, 1) := by decide +kernel
theorem dX12_feed_93 : decode cX12_feed 93 = .ok (.getfield 7, 3) := by decide +kernel
theorem dX12_feed_96 : decode cX12_feed 96 = .ok (.bipush 14, 2) := by decide +kernel
theorem dX12_feed_98 : decode cX12_feed 98 = .ok (.iaload, 1) := by decide +kernel
theorem dX12_feed_99 : decode cX12_feed 99 = .ok (.ireturn, 1) := by decide +kernel
theorem dX12_text_0 : decode cX12_text 0 = .ok (.iload_n 1, 1) := by decide +kernel
theorem dX12_text_1 : decode cX12_text 1 = .ok (.i2l, 1) := by decide +kernel
theorem dX12_text_2 : decode cX12_text 2 = .ok (.lconst 0, 1) := by decide +kernel
theorem dX12_text_3 : decode cX12_text 3 = .ok (.lconst 1, 1) := by decide +kernel
theorem dX12_text_4 : decode cX12_text 4 = .ok (.invokestatic 51, 3) := by decide +kernel
theorem dX12_text_7 : decode cX12_text 7 = .ok (.ifCond .ne 9, 3) := by decide +kernel
theorem dX12_text_10 : decode cX12_text 10 = .ok (.aload_n 0, 1) := by decide +kernel
theorem dX12_text_11 : decode cX12_text 11 = .ok (.iconst 1, 1) := by decide +kernel
theorem dX12_text_12 : decode cX12_text 12 = .ok (.invokevirtual 61, 3) := by decide +kernel
theorem dX12_text_15 : decode cX12_text 15 = .ok (.ireturn, 1) := by decide +kernel
theorem dX12_text_16 : decode cX12_text 16 = .ok (.aload_n 0, 1) := by decide +kernel
theorem dX12_text_17 : decode cX12_text 17 = .ok (.getfield 7, 3) := by decide +kernel
theorem dX12_text_20 : decode cX12_text 20 = .ok (.bipush 14, 2) := by decide +kernel
theorem dX12_text_22 : decode cX12_text 22 = .ok (.iaload, 1) := by decide +kernel
theorem dX12_text_23 : decode cX12_text 23 = .ok (.istore_n 2, 1) := by decide +kernel
theorem dX12_text_24 : decode cX12_text 24 = .ok (.aload_n 0, 1) := by decide +kernel
theorem dX12_text_25 : decode cX12_text 25 = .ok (.getfield 7, 3) := by decide +kernel
theorem dX12_text_28 : decode cX12_text 28 = .ok (.bipush 14, 2) := by decide +kernel
theorem dX12_text_30 : decode cX12_text 30 = .ok (.iconst 0, 1) := by decide +kernel
theorem dX12_text_31 : decode cX12_text 31 = .ok (.iastore, 1) := by decide +kernel
theorem dX12_text_32 : decode cX12_text 32 = .ok (.aload_n 0, 1) := by decide +kernel
theorem dX12_text_33 : decode cX12_text 33 = .ok (.sipush 280, 3) := by decide +kernel
theorem dX12_text_36 : decode cX12_text 36 = .ok (.iload_n 2, 1) := by decide +kernel
theorem dX12_text_37 : decode cX12_text 37 = .ok (.invokevirtual 161, 3) := by decide +kernel
theorem dX12_text_40 : decode cX12_text 40 = .ok (.istore_n 3, 1) := by decide +kernel
theorem dX12_text_41 : decode cX12_text 41 = .ok (.aload_n 0, 1) := by decide +kernel
theorem dX12_text_42 : decode cX12_text 42 = .ok (.getfield 113, 3) := by decide +kernel
theorem dX12_text_45 : decode cX12_text 45 = .ok (.ifCond .lt 11, 3) := by decide +kernel
theorem dX12_text_48 : decode cX12_text 48 = .ok (.bipush (-10), 2) := by decide +kernel
theorem dX12_text_50 : decode cX12_text 50 = .ok (.aload_n 0, 1) := by decide +kernel
theorem dX12_text_51 : decode cX12_text 51 = .ok (.getfield 113, 3) := by decide +kernel
theorem dX12_text_54 : decode cX12_text 54 = .ok (.isub, 1) := by decide +kernel
theorem dX12_text_55 : decode cX12_text 55 = .ok (.ireturn, 1) := by decide +kernel
theorem dX12_text_56 : decode cX12_text 56 = .ok (.aload_n 0, 1) := by decide +kernel
theorem dX12_text_57 : decode cX12_text 57 = .ok (.getfield 7, 3) := by decide +kernel
theorem dX12_text_60 : decode cX12_text 60 = .ok (.bipush 60, 2) := by decide +kernel
theorem dX12_text_62 : decode cX12_text 62 = .ok (.iload_n 1, 1) := by decide +kernel
theorem dX12_text_63 : decode cX12_text 63 = .ok (.iadd, 1) := by decide +kernel
theorem dX12_text_64 : decode cX12_text 64 = .ok (.iload_n 2, 1) := by decide +kernel
theorem dX12_text_65 : decode cX12_text 65 = .ok (.iastore, 1) := by decide +kernel
theorem dX12_text_66 : decode cX12_text 66 = .ok (.iconst 0, 1) := by decide +kernel
theorem dX12_text_67 : decode cX12_text 67 = .ok (.istore 4, 2) := by decide +kernel
theorem dX12_text_69 : decode cX12_text 69 = .ok (.iload 4, 2) := by decide +kernel
theorem dX12_text_71 : decode cX12_text 71 = .ok (.iload_n 2, 1) := by decide +kernel
theorem dX12_text_72 : decode cX12_text 72 = .ok (.if_icmp .ge 36, 3) := by decide +kernel
theorem dX12_text_75 : decode cX12_text 75 = .ok (.aload_n 0, 1) := by decide +kernel
theorem dX12_text_76 : decode cX12_text 76 = .ok (.getfield 7, 3) := by decide +kernel
theorem dX12_text_79 : decode cX12_text 79 = .ok (.sipush 180, 3) := by decide +kernel
theorem dX12_text_82 : decode cX12_text 82 = .ok (.bipush 50, 2) := by decide +kernel
theorem dX12_text_84 : decode cX12_text 84 = .ok (.iload_n 1, 1) := by decide +kernel
theorem dX12_text_85 : decode cX12_text 85 = .ok (.imul, 1) := by decide +kernel
theorem dX12_text_86 : decode cX12_text 86 = .ok (.iadd, 1) := by decide +kernel
theorem dX12_text_87 : decode cX12_text 87 = .ok (.iload 4, 2) := by decide +kernel
theorem dX12_text_89 : decode cX12_text 89 = .ok (.iadd, 1) := by decide +kernel
theorem dX12_text_90 : decode cX12_text 90 = .ok (.aload_n 0, 1) := by decide +kernel
theorem dX12_text_91 : decode cX12_text 91 = .ok (.getfield 7, 3) := by decide +kernel
theorem dX12_text_94 : decode cX12_text 94 = .ok (.sipush 280, 3) := by decide +kernel
theorem dX12_text_97 : decode cX12_text 97 = .ok (.iload 4, 2) := by decide +kernel
theorem dX12_text_99 : decode cX12_text 99 = .ok (.iadd, 1) := by decide +kernel
theorem dX12_text_100 : decode cX12_text 100 = .ok (.iaload, 1) := by decide +kernel
theorem dX12_text_101 : decode cX12_text 101 = .ok (.iastore, 1) := by decide +kernel
theorem dX12_text_102 : decode cX12_text 102 = .ok (.iinc 4 1, 3) := by decide +kernel
theorem dX12_text_105 : decode cX12_text 105 = .ok (.goto (-36), 3) := by decide +kernel
theorem dX12_text_108 : decode cX12_text 108 = .ok (.iconst 1, 1) := by decide +kernel
theorem dX12_text_109 : decode cX12_text 109 = .ok (.ireturn, 1) := by decide +kernel
theorem dX12_gives_0 : decode cX12_gives 0 = .ok (.aload_n 0, 1) := by decide +kernel
theorem dX12_gives_1 : decode cX12_gives 1 = .ok (.getfield 7, 3) := by decide +kernel
theorem dX12_gives_4 : decode cX12_gives 4 = .ok (.bipush 60, 2) := by decide +kernel
theorem dX12_gives_6 : decode cX12_gives 6 = .ok (.iload_n 1, 1) := by decide +kernel
theorem dX12_gives_7 : decode cX12_gives 7 = .ok (.iadd, 1) := by decide +kernel
theorem dX12_gives_8 : decode cX12_gives 8 = .ok (.iaload, 1) := by decide +kernel
theorem dX12_gives_9 : decode cX12_gives 9 = .ok (.ifCond .ne 6, 3) := by decide +kernel
theorem dX12_gives_12 : decode cX12_gives 12 = .ok (.iload 5, 2) := by decide +kernel
theorem dX12_gives_14 : decode cX12_gives 14 = .ok (.ireturn, 1) := by decide +kernel
theorem dX12_gives_15 : decode cX12_gives 15 = .ok (.aload_n 0, 1) := by decide +kernel
theorem dX12_gives_16 : decode cX12_gives 16 = .ok (.getfield 22, 3) := by decide +kernel
theorem dX12_gives_19 : decode cX12_gives 19 = .ok (.iconst 0, 1) := by decide +kernel
theorem dX12_gives_20 : decode cX12_gives 20 = .ok (.iload_n 2, 1) := by decide +kernel
theorem dX12_gives_21 : decode cX12_gives 21 = .ok (.iastore, 1) := by decide +kernel
theorem dX12_gives_22 : decode cX12_gives 22 = .ok (.aload_n 0, 1) := by decide +kernel
theorem dX12_gives_23 : decode cX12_gives 23 = .ok (.getfield 22, 3) := by decide +kernel
theorem dX12_gives_26 : decode cX12_gives 26 = .ok (.iconst 1, 1) := by decide +kernel
theorem dX12_gives_27 : decode cX12_gives 27 = .ok (.iload_n 3, 1) := by decide +kernel
theorem dX12_gives_28 : decode cX12_gives 28 = .ok (.iastore, 1) := by decide +kernel
theorem dX12_gives_29 : decode cX12_gives 29 = .ok (.aload_n 0, 1) := by decide +kernel
theorem dX12_gives_30 : decode cX12_gives 30 = .ok (.getfield 22, 3) := by decide +kernel
theorem dX12_gives_33 : decode cX12_gives 33 = .ok (.iconst 2, 1) := by decide +kernel
theorem dX12_gives_34 : decode cX12_gives 34 = .ok (.iload 4, 2) := by decide +kernel
theorem dX12_gives_36 : decode cX12_gives 36 = .ok (.iastore, 1) := by decide +kernel
theorem dX12_gives_37 : decode cX12_gives 37 = .ok (.aload_n 0, 1) := by decide +kernel
theorem dX12_gives_38 : decode cX12_gives 38 = .ok (.sipush 180, 3) := by decide +kernel
theorem dX12_gives_41 : decode cX12_gives 41 = .ok (.bipush 50, 2) := by decide +kernel
theorem dX12_gives_43 : decode cX12_gives 43 = .ok (.iload_n 1, 1) := by decide +kernel
theorem dX12_gives_44 : decode cX12_gives 44 = .ok (.imul, 1) := by decide +kernel
theorem dX12_gives_45 : decode cX12_gives 45 = .ok (.iadd, 1) := by decide +kernel
theorem dX12_gives_46 : decode cX12_gives 46 = .ok (.aload_n 0, 1) := by decide +kernel
theorem dX12_gives_47 : decode cX12_gives 47 = .ok (.getfield 7, 3) := by decide +kernel
theorem dX12_gives_50 : decode cX12_gives 50 = .ok (.bipush 60, 2) := by decide +kernel
theorem dX12_gives_52 : decode cX12_gives 52 = .ok (.iload_n 1, 1) := by decide +kernel
theorem dX12_gives_53 : decode cX12_gives 53 = .ok (.iadd, 1) := by decide +kernel
theorem dX12_gives_54 : decode cX12_gives 54 = .ok (.iaload, 1) := by decide +kernel
theorem dX12_gives_55 : decode cX12_gives 55 = .ok (.invokevirtual 161, 3) := by decide +kernel
theorem dX12_gives_58 : decode cX12_gives 58 = .ok (.ireturn, 1) := by decide +kernel
theorem dX12_law_0 : decode cX12_law 0 = .ok (.iload_n 1, 1) := by decide +kernel
theorem dX12_law_1 : decode cX12_law 1 = .ok (.i2l, 1) := by decide +kernel
theorem dX12_law_2 : decode cX12_law 2 = .ok (.lconst 0, 1) := by decide +kernel
theorem dX12_law_3 : decode cX12_law 3 = .ok (.lconst 1, 1) := by decide +kernel
theorem dX12_law_4 : decode cX12_law 4 = .ok (.invokestatic 51, 3) := by decide +kernel
theorem dX12_law_7 : decode cX12_law 7 = .ok (.ifCond .ne 9, 3) := by decide +kernel
theorem dX12_law_10 : decode cX12_law 10 = .ok (.aload_n 0, 1) := by decide +kernel
theorem dX12_law_11 : decode cX12_law 11 = .ok (.iconst 1, 1) := by decide +kernel
theorem dX12_law_12 : decode cX12_law 12 = .ok (.invokevirtual 61, 3) := by decide +kernel
theorem dX12_law_15 : decode cX12_law 15 = .ok (.ireturn, 1) := by decide +kernel
theorem dX12_law_16 : decode cX12_law 16 = .ok (.aload_n 0, 1) := by decide +kernel
theorem dX12_law_17 : decode cX12_law 17 = .ok (.iload_n 1, 1) := by decide +kernel
theorem dX12_law_18 : decode cX12_law 18 = .ok (.iload_n 2, 1) := by decide +kernel
theorem dX12_law_19 : decode cX12_law 19 = .ok (.iload_n 3, 1) := by decide +kernel
theorem dX12_law_20 : decode cX12_law 20 = .ok (.iload 4, 2) := by decide +kernel
theorem dX12_law_22 : decode cX12_law 22 = .ok (.iload_n 1, 1) := by decide +kernel
theorem dX12_law_23 : decode cX12_law 23 = .ok (.ifCond .ne 12, 3) := by decide +kernel
theorem dX12_law_26 : decode cX12_law 26 = .ok (.aload_n 0, 1) := by decide +kernel
theorem dX12_law_27 : decode cX12_law 27 = .ok (.getfield 7, 3) := by decide +kernel
theorem dX12_law_30 : decode cX12_law 30 = .ok (.iconst 4, 1) := by decide +kernel
theorem dX12_law_31 : decode cX12_law 31 = .ok (.iaload, 1) := by decide +kernel
theorem dX12_law_32 : decode cX12_law 32 = .ok (.goto 10, 3) := by decide +kernel
theorem dX12_law_35 : decode cX12_law 35 = .ok (.aload_n 0, 1) := by decide +kernel
theorem dX12_law_36 : decode cX12_law 36 = .ok (.getfield 7, 3) := by decide +kernel
theorem dX12_law_39 : decode cX12_law 39 = .ok (.bipush 6, 2) := by decide +kernel
theorem dX12_law_41 : decode cX12_law 41 = .ok (.iaload, 1) := by decide +kernel
theorem dX12_law_42 : decode cX12_law 42 = .ok (.invokevirtual 165, 3) := by decide +kernel
theorem dX12_law_45 : decode cX12_law 45 = .ok (.istore 5, 2) := by decide +kernel
theorem dX12_law_47 : decode cX12_law 47 = .ok (.iload_n 1, 1) := by decide +kernel
theorem dX12_law_48 : decode cX12_law 48 = .ok (.ifCond .ne 15, 3) := by decide +kernel
theorem dX12_law_51 : decode cX12_law 51 = .ok (.iload 5, 2) := by decide +kernel
theorem dX12_law_53 : decode cX12_law 53 = .ok (.iconst 0, 1) := by decide +kernel
theorem dX12_law_54 : decode cX12_law 54 = .ok (.sipush 9999, 3) := by decide +kernel
theorem dX12_law_57 : decode cX12_law 57 = .ok (.invokestatic 169, 3) := by decide +kernel
theorem dX12_law_60 : decode cX12_law 60 = .ok (.goto 12, 3) := by decide +kernel
theorem dX12_law_63 : decode cX12_law 63 = .ok (.iload 5, 2) := by decide +kernel
theorem dX12_law_65 : decode cX12_law 65 = .ok (.bipush (-50), 2) := by decide +kernel
theorem dX12_law_67 : decode cX12_law 67 = .ok (.bipush 99, 2) := by decide +kernel
theorem dX12_law_69 : decode cX12_law 69 = .ok (.invokestatic 169, 3) := by decide +kernel
theorem dX12_law_72 : decode cX12_law 72 = .ok (.ireturn, 1) := by decide +kernel
theorem dX12_coldOf_0 : decode cX12_coldOf 0 = .ok (.aload_n 0, 1) := by decide +kernel
theorem dX12_coldOf_1 : decode cX12_coldOf 1 = .ok (.iconst 1, 1) := by decide +kernel
theorem dX12_coldOf_2 : decode cX12_coldOf 2 = .ok (.aload_n 1, 1) := by decide +kernel
theorem dX12_coldOf_3 : decode cX12_coldOf 3 = .ok (.iconst 0, 1) := by decide +kernel
theorem dX12_coldOf_4 : decode cX12_coldOf 4 = .ok (.iaload, 1) := by decide +kernel
theorem dX12_coldOf_5 : decode cX12_coldOf 5 = .ok (.aload_n 1, 1) := by decide +kernel
theorem dX12_coldOf_6 : decode cX12_coldOf 6 = .ok (.iconst 4, 1) := by decide +kernel
theorem dX12_coldOf_7 : decode cX12_coldOf 7 = .ok (.iaload, 1) := by decide +kernel
theorem dX12_coldOf_8 : decode cX12_coldOf 8 = .ok (.aload_n 1, 1) := by decide +kernel
theorem dX12_coldOf_9 : decode cX12_coldOf 9 = .ok (.bipush 6, 2) := by decide +kernel
theorem dX12_coldOf_11 : decode cX12_coldOf 11 = .ok (.iaload, 1) := by decide +kernel
theorem dX12_coldOf_12 : decode cX12_coldOf 12 = .ok (.aload_n 1, 1) := by decide +kernel
theorem dX12_coldOf_13 : decode cX12_coldOf 13 = .ok (.bipush 6, 2) := by decide +kernel
theorem dX12_coldOf_15 : decode cX12_coldOf 15 = .ok (.iaload, 1) := by decide +kernel
theorem dX12_coldOf_16 : decode cX12_coldOf 16 = .ok (.invokevirtual 165, 3) := by decide +kernel
theorem dX12_coldOf_19 : decode cX12_coldOf 19 = .ok (.bipush (-50), 2) := by decide +kernel
theorem dX12_coldOf_21 : decode cX12_coldOf 21 = .ok (.bipush 99, 2) := by decide +kernel
theorem dX12_coldOf_23 : decode cX12_coldOf 23 = .ok (.invokestatic 169, 3) := by decide +kernel
theorem dX12_coldOf_26 : decode cX12_coldOf 26 = .ok (.ireturn, 1) := by decide +kernel
theorem dX12_goesBy_0 : decode cX12_goesBy 0 = .ok (.aload_n 0, 1) := by decide +kernel
theorem dX12_goesBy_1 : decode cX12_goesBy 1 = .ok (.iconst 0, 1) := by decide +kernel
theorem dX12_goesBy_2 : decode cX12_goesBy 2 = .ok (.aload_n 1, 1) := by decide +kernel
theorem dX12_goesBy_3 : decode cX12_goesBy 3 = .ok (.iconst 0, 1) := by decide +kernel
theorem dX12_goesBy_4 : decode cX12_goesBy 4 = .ok (.iaload, 1) := by decide +kernel
theorem dX12_goesBy_5 : decode cX12_goesBy 5 = .ok (.aload_n 1, 1) := by decide +kernel
theorem dX12_goesBy_6 : decode cX12_goesBy 6 = .ok (.iconst 4, 1) := by decide +kernel
theorem dX12_goesBy_7 : decode cX12_goesBy 7 = .ok (.iaload, 1) := by decide +kernel
theorem dX12_goesBy_8 : decode cX12_goesBy 8 = .ok (.aload_n 1, 1) := by decide +kernel
theorem dX12_goesBy_9 : decode cX12_goesBy 9 = .ok (.bipush 6, 2) := by decide +kernel
theorem dX12_goesBy_11 : decode cX12_goesBy 11 = .ok (.iaload, 1) := by decide +kernel
theorem dX12_goesBy_12 : decode cX12_goesBy 12 = .ok (.aload_n 1, 1) := by decide +kernel
theorem dX12_goesBy_13 : decode cX12_goesBy 13 = .ok (.iconst 4, 1) := by decide +kernel
theorem dX12_goesBy_14 : decode cX12_goesBy 14 = .ok (.iaload, 1) := by decide +kernel
theorem dX12_goesBy_15 : decode cX12_goesBy 15 = .ok (.invokevirtual 165, 3) := by decide +kernel
theorem dX12_goesBy_18 : decode cX12_goesBy 18 = .ok (.iconst 0, 1) := by decide +kernel
theorem dX12_goesBy_19 : decode cX12_goesBy 19 = .ok (.sipush 9999, 3) := by decide +kernel
theorem dX12_goesBy_22 : decode cX12_goesBy 22 = .ok (.invokestatic 169, 3) := by decide +kernel
theorem dX12_goesBy_25 : decode cX12_goesBy 25 = .ok (.istore_n 2, 1) := by decide +kernel
theorem dX12_goesBy_26 : decode cX12_goesBy 26 = .ok (.aload_n 0, 1) := by decide +kernel
theorem dX12_goesBy_27 : decode cX12_goesBy 27 = .ok (.aload_n 1, 1) := by decide +kernel
theorem dX12_goesBy_28 : decode cX12_goesBy 28 = .ok (.invokevirtual 98, 3) := by decide +kernel
theorem dX12_goesBy_31 : decode cX12_goesBy 31 = .ok (.istore_n 3, 1) := by decide +kernel
theorem dX12_goesBy_32 : decode cX12_goesBy 32 = .ok (.iload_n 2, 1) := by decide +kernel
theorem dX12_goesBy_33 : decode cX12_goesBy 33 = .ok (.aload_n 1, 1) := by decide +kernel
theorem dX12_goesBy_34 : decode cX12_goesBy 34 = .ok (.iconst 5, 1) := by decide +kernel
theorem dX12_goesBy_35 : decode cX12_goesBy 35 = .ok (.iaload, 1) := by decide +kernel
theorem dX12_goesBy_36 : decode cX12_goesBy 36 = .ok (.imul, 1) := by decide +kernel
theorem dX12_goesBy_37 : decode cX12_goesBy 37 = .ok (.istore 4, 2) := by decide +kernel
theorem dX12_goesBy_39 : decode cX12_goesBy 39 = .ok (.iconst 0, 1) := by decide +kernel
theorem dX12_goesBy_40 : decode cX12_goesBy 40 = .ok (.istore 5, 2) := by decide +kernel
theorem dX12_goesBy_42 : decode cX12_goesBy 42 = .ok (.iload 5, 2) := by decide +kernel
theorem dX12_goesBy_44 : decode cX12_goesBy 44 = .ok (.aload_n 1, 1) := by decide +kernel
theorem dX12_goesBy_45 : decode cX12_goesBy 45 = .ok (.iconst 1, 1) := by decide +kernel
theorem dX12_goesBy_46 : decode cX12_goesBy 46 = .ok (.iaload, 1) := by decide +kernel
theorem dX12_goesBy_47 : decode cX12_goesBy 47 = .ok (.if_icmp .ge 158, 3) := by decide +kernel
theorem dX12_goesBy_50 : decode cX12_goesBy 50 = .ok (.iconst 0, 1) := by decide +kernel
theorem dX12_goesBy_51 : decode cX12_goesBy 51 = .ok (.istore 6, 2) := by decide +kernel
theorem dX12_goesBy_53 : decode cX12_goesBy 53 = .ok (.iconst 0, 1) := by decide +kernel
theorem dX12_goesBy_54 : decode cX12_goesBy 54 = .ok (.istore 7, 2) := by decide +kernel
theorem dX12_goesBy_56 : decode cX12_goesBy 56 = .ok (.iload 7, 2) := by decide +kernel
theorem dX12_goesBy_58 : decode cX12_goesBy 58 = .ok (.aload_n 1, 1) := by decide +kernel
theorem dX12_goesBy_59 : decode cX12_goesBy 59 = .ok (.bipush 11, 2) := by decide +kernel
theorem dX12_goesBy_61 : decode cX12_goesBy 61 = .ok (.iaload, 1) := by decide +kernel
theorem dX12_goesBy_62 : decode cX12_goesBy 62 = .ok (.if_icmp .ge 43, 3) := by decide +kernel
theorem dX12_goesBy_65 : decode cX12_goesBy 65 = .ok (.iload 6, 2) := by decide +kernel
theorem dX12_goesBy_67 : decode cX12_goesBy 67 = .ok (.aload_n 1, 1) := by decide +kernel
theorem dX12_goesBy_68 : decode cX12_goesBy 68 = .ok (.bipush 10, 2) := by decide +kernel
theorem dX12_goesBy_70 : decode cX12_goesBy 70 = .ok (.iaload, 1) := by decide +kernel
theorem dX12_goesBy_71 : decode cX12_goesBy 71 = .ok (.iload 7, 2) := by decide +kernel
theorem dX12_goesBy_73 : decode cX12_goesBy 73 = .ok (.ishr, 1) := by decide +kernel
theorem dX12_goesBy_74 : decode cX12_goesBy 74 = .ok (.iconst 1, 1) := by decide +kernel
theorem dX12_goesBy_75 : decode cX12_goesBy 75 = .ok (.iand, 1) := by decide +kernel
theorem dX12_goesBy_76 : decode cX12_goesBy 76 = .ok (.iconst 1, 1) := by decide +kernel
theorem dX12_goesBy_77 : decode cX12_goesBy 77 = .ok (.if_icmp .ne 18, 3) := by decide +kernel
theorem dX12_goesBy_80 : decode cX12_goesBy 80 = .ok (.aload_n 1, 1) := by decide +kernel
theorem dX12_goesBy_81 : decode cX12_goesBy 81 = .ok (.iload 7, 2) := by decide +kernel
theorem dX12_goesBy_83 : decode cX12_goesBy 83 = .ok (.iload 5, 2) := by decide +kernel
theorem dX12_goesBy_85 : decode cX12_goesBy 85 = .ok (.iload_n 2, 1) := by decide +kernel
theorem dX12_goesBy_86 : decode cX12_goesBy 86 = .ok (.iload 4, 2) := by decide +kernel
theorem dX12_goesBy_88 : decode cX12_goesBy 88 = .ok (.iload_n 3, 1) := by decide +kernel
theorem dX12_goesBy_89 : decode cX12_goesBy 89 = .ok (.invokestatic 102, 3) := by decide +kernel
theorem dX12_goesBy_92 : decode cX12_goesBy 92 = .ok (.goto 4, 3) := by decide +kernel
theorem dX12_goesBy_95 : decode cX12_goesBy 95 = .ok (.iconst 0, 1) := by decide +kernel
theorem dX12_goesBy_96 : decode cX12_goesBy 96 = .ok (.iadd, 1) := by decide +kernel
theorem dX12_goesBy_97 : decode cX12_goesBy 97 = .ok (.istore 6, 2) := by decide +kernel
theorem dX12_goesBy_99 : decode cX12_goesBy 99 = .ok (.iinc 7 1, 3) := by decide +kernel
theorem dX12_goesBy_102 : decode cX12_goesBy 102 = .ok (.goto (-46), 3) := by decide +kernel
theorem dX12_goesBy_105 : decode cX12_goesBy 105 = .ok (.iload 6, 2) := by decide +kernel
theorem dX12_goesBy_107 : decode cX12_goesBy 107 = .ok (.iconst 0, 1) := by decide +kernel
theorem dX12_goesBy_108 : decode cX12_goesBy 108 = .ok (.iload_n 2, 1) := by decide +kernel
theorem dX12_goesBy_109 : decode cX12_goesBy 109 = .ok (.invokestatic 169, 3) := by decide +kernel
theorem dX12_goesBy_112 : decode cX12_goesBy 112 = .ok (.istore 7, 2) := by decide +kernel
theorem dX12_goesBy_114 : decode cX12_goesBy 114 = .ok (.iload_n 2, 1) := by decide +kernel
theorem dX12_goesBy_115 : decode cX12_goesBy 115 = .ok (.ifCond .ne 7, 3) := by decide +kernel
theorem dX12_goesBy_118 : decode cX12_goesBy 118 = .ok (.iconst 0, 1) := by decide +kernel
theorem dX12_goesBy_119 : decode cX12_goesBy 119 = .ok (.goto 18, 3) := by decide +kernel
theorem dX12_goesBy_122 : decode cX12_goesBy 122 = .ok (.iload 4, 2) := by decide +kernel
theorem dX12_goesBy_124 : decode cX12_goesBy 124 = .ok (.i2l, 1) := by decide +kernel
theorem dX12_goesBy_125 : decode cX12_goesBy 125 = .ok (.iload 7, 2) := by decide +kernel
theorem dX12_goesBy_127 : decode cX12_goesBy 127 = .ok (.i2l, 1) := by decide +kernel
theorem dX12_goesBy_128 : decode cX12_goesBy 128 = .ok (.lmul, 1) := by decide +kernel
theorem dX12_goesBy_129 : decode cX12_goesBy 129 = .ok (.ldc2_w 59, 3) := by decide +kernel
theorem dX12_goesBy_132 : decode cX12_goesBy 132 = .ok (.iload_n 2, 1) := by decide +kernel
theorem dX12_goesBy_133 : decode cX12_goesBy 133 = .ok (.i2l, 1) := by decide +kernel
theorem dX12_goesBy_134 : decode cX12_goesBy 134 = .ok (.lmul, 1) := by decide +kernel
theorem dX12_goesBy_135 : decode cX12_goesBy 135 = .ok (.ldiv, 1) := by decide +kernel
theorem dX12_goesBy_136 : decode cX12_goesBy 136 = .ok (.l2i, 1) := by decide +kernel
theorem dX12_goesBy_137 : decode cX12_goesBy 137 = .ok (.istore 8, 2) := by decide +kernel
theorem dX12_goesBy_139 : decode cX12_goesBy 139 = .ok (.aload_n 1, 1) := by decide +kernel
theorem dX12_goesBy_140 : decode cX12_goesBy 140 = .ok (.bipush 100, 2) := by decide +kernel
theorem dX12_goesBy_142 : decode cX12_goesBy 142 = .ok (.iload 5, 2) := by decide +kernel
theorem dX12_goesBy_144 : decode cX12_goesBy 144 = .ok (.iadd, 1) := by decide +kernel
theorem dX12_goesBy_145 : decode cX12_goesBy 145 = .ok (.aload_n 1, 1) := by decide +kernel
theorem dX12_goesBy_146 : decode cX12_goesBy 146 = .ok (.bipush 100, 2) := by decide +kernel
theorem dX12_goesBy_148 : decode cX12_goesBy 148 = .ok (.iload 5, 2) := by decide +kernel
theorem dX12_goesBy_150 : decode cX12_goesBy 150 = .ok (.iadd, 1) := by decide +kernel
theorem dX12_goesBy_151 : decode cX12_goesBy 151 = .ok (.iaload, 1) := by decide +kernel
theorem dX12_goesBy_152 : decode cX12_goesBy 152 = .ok (.iload 7, 2) := by decide +kernel
theorem dX12_goesBy_154 : decode cX12_goesBy 154 = .ok (.iadd, 1) := by decide +kernel
theorem dX12_goesBy_155 : decode cX12_goesBy 155 = .ok (.iconst 0, 1) := by decide +kernel
theorem dX12_goesBy_156 : decode cX12_goesBy 156 = .ok (.ldc 173, 2) := by decide +kernel
theorem dX12_goesBy_158 : decode cX12_goesBy 158 = .ok (.invokestatic 169, 3) := by decide +kernel
theorem dX12_goesBy_161 : decode cX12_goesBy 161 = .ok (.iastore, 1) := by decide +kernel
theorem dX12_goesBy_162 : decode cX12_goesBy 162 = .ok (.aload_n 1, 1) := by decide +kernel
theorem dX12_goesBy_163 : decode cX12_goesBy 163 = .ok (.sipush 140, 3) := by decide +kernel
theorem dX12_goesBy_166 : decode cX12_goesBy 166 = .ok (.iload 5, 2) := by decide +kernel
theorem dX12_goesBy_168 : decode cX12_goesBy 168 = .ok (.iadd, 1) := by decide +kernel
theorem dX12_goesBy_169 : decode cX12_goesBy 169 = .ok (.aload_n 1, 1) := by decide +kernel
theorem dX12_goesBy_170 : decode cX12_goesBy 170 = .ok (.sipush 140, 3) := by decide +kernel
theorem dX12_goesBy_173 : decode cX12_goesBy 173 = .ok (.iload 5, 2) := by decide +kernel
theorem dX12_goesBy_175 : decode cX12_goesBy 175 = .ok (.iadd, 1) := by decide +kernel
theorem dX12_goesBy_176 : decode cX12_goesBy 176 = .ok (.iaload, 1) := by decide +kernel
theorem dX12_goesBy_177 : decode cX12_goesBy 177 = .ok (.iload 8, 2) := by decide +kernel
theorem dX12_goesBy_179 : decode cX12_goesBy 179 = .ok (.iadd, 1) := by decide +kernel
theorem dX12_goesBy_180 : decode cX12_goesBy 180 = .ok (.iconst 0, 1) := by decide +kernel
theorem dX12_goesBy_181 : decode cX12_goesBy 181 = .ok (.ldc 174, 2) := by decide +kernel
theorem dX12_goesBy_183 : decode cX12_goesBy 183 = .ok (.invokestatic 169, 3) := by decide +kernel
theorem dX12_goesBy_186 : decode cX12_goesBy 186 = .ok (.iastore, 1) := by decide +kernel
theorem dX12_goesBy_187 : decode cX12_goesBy 187 = .ok (.iload_n 2, 1) := by decide +kernel
theorem dX12_goesBy_188 : decode cX12_goesBy 188 = .ok (.iload 7, 2) := by decide +kernel
theorem dX12_goesBy_190 : decode cX12_goesBy 190 = .ok (.isub, 1) := by decide +kernel
theorem dX12_goesBy_191 : decode cX12_goesBy 191 = .ok (.istore_n 2, 1) := by decide +kernel
theorem dX12_goesBy_192 : decode cX12_goesBy 192 = .ok (.iload 4, 2) := by decide +kernel
theorem dX12_goesBy_194 : decode cX12_goesBy 194 = .ok (.iload 8, 2) := by decide +kernel
theorem dX12_goesBy_196 : decode cX12_goesBy 196 = .ok (.isub, 1) := by decide +kernel
theorem dX12_goesBy_197 : decode cX12_goesBy 197 = .ok (.istore 4, 2) := by decide +kernel
theorem dX12_goesBy_199 : decode cX12_goesBy 199 = .ok (.iinc 5 1, 3) := by decide +kernel
theorem dX12_goesBy_202 : decode cX12_goesBy 202 = .ok (.goto (-160), 3) := by decide +kernel
theorem dX12_goesBy_205 : decode cX12_goesBy 205 = .ok (.iload_n 2, 1) := by decide +kernel
theorem dX12_goesBy_206 : decode cX12_goesBy 206 = .ok (.ifCond .le 55, 3) := by decide +kernel
theorem dX12_goesBy_209 : decode cX12_goesBy 209 = .ok (.iload_n 2, 1) := by decide +kernel
theorem dX12_goesBy_210 : decode cX12_goesBy 210 = .ok (.aload_n 1, 1) := by decide +kernel
theorem dX12_goesBy_211 : decode cX12_goesBy 211 = .ok (.bipush 8, 2) := by decide +kernel
theorem dX12_goesBy_213 : decode cX12_goesBy 213 = .ok (.iaload, 1) := by decide +kernel
theorem dX12_goesBy_214 : decode cX12_goesBy 214 = .ok (.if_icmp .ge 47, 3) := by decide +kernel
theorem dX12_goesBy_217 : decode cX12_goesBy 217 = .ok (.aload_n 1, 1) := by decide +kernel
theorem dX12_goesBy_218 : decode cX12_goesBy 218 = .ok (.iconst 1, 1) := by decide +kernel
theorem dX12_goesBy_219 : decode cX12_goesBy 219 = .ok (.iaload, 1) := by decide +kernel
theorem dX12_goesBy_220 : decode cX12_goesBy 220 = .ok (.bipush 40, 2) := by decide +kernel
theorem dX12_goesBy_222 : decode cX12_goesBy 222 = .ok (.if_icmp .ge 39, 3) := by decide +kernel
theorem dX12_goesBy_225 : decode cX12_goesBy 225 = .ok (.aload_n 1, 1) := by decide +kernel
theorem dX12_goesBy_226 : decode cX12_goesBy 226 = .ok (.bipush 100, 2) := by decide +kernel
theorem dX12_goesBy_228 : decode cX12_goesBy 228 = .ok (.aload_n 1, 1) := by decide +kernel
theorem dX12_goesBy_229 : decode cX12_goesBy 229 = .ok (.iconst 1, 1) := by decide +kernel
theorem dX12_goesBy_230 : decode cX12_goesBy 230 = .ok (.iaload, 1) := by decide +kernel
theorem dX12_goesBy_231 : decode cX12_goesBy 231 = .ok (.iadd, 1) := by decide +kernel
theorem dX12_goesBy_232 : decode cX12_goesBy 232 = .ok (.iload_n 2, 1) := by decide +kernel
theorem dX12_goesBy_233 : decode cX12_goesBy 233 = .ok (.iastore, 1) := by decide +kernel
theorem dX12_goesBy_234 : decode cX12_goesBy 234 = .ok (.aload_n 1, 1) := by decide +kernel
theorem dX12_goesBy_235 : decode cX12_goesBy 235 = .ok (.sipush 140, 3) := by decide +kernel
theorem dX12_goesBy_238 : decode cX12_goesBy 238 = .ok (.aload_n 1, 1) := by decide +kernel
theorem dX12_goesBy_239 : decode cX12_goesBy 239 = .ok (.iconst 1, 1) := by decide +kernel
theorem dX12_goesBy_240 : decode cX12_goesBy 240 = .ok (.iaload, 1) := by decide +kernel
theorem dX12_goesBy_241 : decode cX12_goesBy 241 = .ok (.iadd, 1) := by decide +kernel
theorem dX12_goesBy_242 : decode cX12_goesBy 242 = .ok (.iload 4, 2) := by decide +kernel
theorem dX12_goesBy_244 : decode cX12_goesBy 244 = .ok (.iconst 0, 1) := by decide +kernel
theorem dX12_goesBy_245 : decode cX12_goesBy 245 = .ok (.ldc 174, 2) := by decide +kernel
theorem dX12_goesBy_247 : decode cX12_goesBy 247 = .ok (.invokestatic 169, 3) := by decide +kernel
theorem dX12_goesBy_250 : decode cX12_goesBy 250 = .ok (.iastore, 1) := by decide +kernel
theorem dX12_goesBy_251 : decode cX12_goesBy 251 = .ok (.aload_n 1, 1) := by decide +kernel
theorem dX12_goesBy_252 : decode cX12_goesBy 252 = .ok (.iconst 1, 1) := by decide +kernel
theorem dX12_goesBy_253 : decode cX12_goesBy 253 = .ok (.dup2, 1) := by decide +kernel
theorem dX12_goesBy_254 : decode cX12_goesBy 254 = .ok (.iaload, 1) := by decide +kernel
theorem dX12_goesBy_255 : decode cX12_goesBy 255 = .ok (.iconst 1, 1) := by decide +kernel
theorem dX12_goesBy_256 : decode cX12_goesBy 256 = .ok (.iadd, 1) := by decide +kernel
theorem dX12_goesBy_257 : decode cX12_goesBy 257 = .ok (.iastore, 1) := by decide +kernel
theorem dX12_goesBy_258 : decode cX12_goesBy 258 = .ok (.goto 21, 3) := by decide +kernel
theorem dX12_goesBy_261 : decode cX12_goesBy 261 = .ok (.iload_n 2, 1) := by decide +kernel
theorem dX12_goesBy_262 : decode cX12_goesBy 262 = .ok (.ifCond .le 17, 3) := by decide +kernel
theorem dX12_goesBy_265 : decode cX12_goesBy 265 = .ok (.aload_n 1, 1) := by decide +kernel
theorem dX12_goesBy_266 : decode cX12_goesBy 266 = .ok (.iconst 2, 1) := by decide +kernel
theorem dX12_goesBy_267 : decode cX12_goesBy 267 = .ok (.dup2, 1) := by decide +kernel
theorem dX12_goesBy_268 : decode cX12_goesBy 268 = .ok (.iaload, 1) := by decide +kernel
theorem dX12_goesBy_269 : decode cX12_goesBy 269 = .ok (.iload_n 2, 1) := by decide +kernel
theorem dX12_goesBy_270 : decode cX12_goesBy 270 = .ok (.iadd, 1) := by decide +kernel
theorem dX12_goesBy_271 : decode cX12_goesBy 271 = .ok (.iastore, 1) := by decide +kernel
theorem dX12_goesBy_272 : decode cX12_goesBy 272 = .ok (.aload_n 1, 1) := by decide +kernel
theorem dX12_goesBy_273 : decode cX12_goesBy 273 = .ok (.iconst 3, 1) := by decide +kernel
theorem dX12_goesBy_274 : decode cX12_goesBy 274 = .ok (.dup2, 1) := by decide +kernel
theorem dX12_goesBy_275 : decode cX12_goesBy 275 = .ok (.iaload, 1) := by decide +kernel
theorem dX12_goesBy_276 : decode cX12_goesBy 276 = .ok (.iconst 1, 1) := by decide +kernel
theorem dX12_goesBy_277 : decode cX12_goesBy 277 = .ok (.iadd, 1) := by decide +kernel
theorem dX12_goesBy_278 : decode cX12_goesBy 278 = .ok (.iastore, 1) := by decide +kernel
theorem dX12_goesBy_279 : decode cX12_goesBy 279 = .ok (.aload_n 1, 1) := by decide +kernel
theorem dX12_goesBy_280 : decode cX12_goesBy 280 = .ok (.iconst 0, 1) := by decide +kernel
theorem dX12_goesBy_281 : decode cX12_goesBy 281 = .ok (.dup2, 1) := by decide +kernel
theorem dX12_goesBy_282 : decode cX12_goesBy 282 = .ok (.iaload, 1) := by decide +kernel
theorem dX12_goesBy_283 : decode cX12_goesBy 283 = .ok (.iconst 1, 1) := by decide +kernel
theorem dX12_goesBy_284 : decode cX12_goesBy 284 = .ok (.iadd, 1) := by decide +kernel
theorem dX12_goesBy_285 : decode cX12_goesBy 285 = .ok (.iastore, 1) := by decide +kernel
theorem dX12_goesBy_286 : decode cX12_goesBy 286 = .ok (.return_, 1) := by decide +kernel
theorem dX12_isLate_0 : decode cX12_isLate 0 = .ok (.aload_n 0, 1) := by decide +kernel
theorem dX12_isLate_1 : decode cX12_isLate 1 = .ok (.getfield 7, 3) := by decide +kernel
theorem dX12_isLate_4 : decode cX12_isLate 4 = .ok (.iconst 0, 1) := by decide +kernel
theorem dX12_isLate_5 : decode cX12_isLate 5 = .ok (.iaload, 1) := by decide +kernel
theorem dX12_isLate_6 : decode cX12_isLate 6 = .ok (.iload_n 1, 1) := by decide +kernel
theorem dX12_isLate_7 : decode cX12_isLate 7 = .ok (.iadd, 1) := by decide +kernel
theorem dX12_isLate_8 : decode cX12_isLate 8 = .ok (.sipush 9999, 3) := by decide +kernel
theorem dX12_isLate_11 : decode cX12_isLate 11 = .ok (.if_icmp .le 7, 3) := by decide +kernel
theorem dX12_isLate_14 : decode cX12_isLate 14 = .ok (.iconst 1, 1) := by decide +kernel
theorem dX12_isLate_15 : decode cX12_isLate 15 = .ok (.goto 4, 3) := by decide +kernel
theorem dX12_isLate_18 : decode cX12_isLate 18 = .ok (.iconst 0, 1) := by decide +kernel
theorem dX12_isLate_19 : decode cX12_isLate 19 = .ok (.ireturn, 1) := by decide +kernel
theorem dX12_ticks_0 : decode cX12_ticks 0 = .ok (.iload_n 1, 1) := by decide +kernel
theorem dX12_ticks_1 : decode cX12_ticks 1 = .ok (.i2l, 1) := by decide +kernel
theorem dX12_ticks_2 : decode cX12_ticks 2 = .ok (.lconst 1, 1) := by decide +kernel
theorem dX12_ticks_3 : decode cX12_ticks 3 = .ok (.ldc2_w 175, 3) := by decide +kernel
theorem dX12_ticks_6 : decode cX12_ticks 6 = .ok (.invokestatic 51, 3) := by decide +kernel
theorem dX12_ticks_9 : decode cX12_ticks 9 = .ok (.ifCond .ne 9, 3) := by decide +kernel
theorem dX12_ticks_12 : decode cX12_ticks 12 = .ok (.aload_n 0, 1) := by decide +kernel
theorem dX12_ticks_13 : decode cX12_ticks 13 = .ok (.iconst 1, 1) := by decide +kernel
theorem dX12_ticks_14 : decode cX12_ticks 14 = .ok (.invokevirtual 61, 3) := by decide +kernel
theorem dX12_ticks_17 : decode cX12_ticks 17 = .ok (.ireturn, 1) := by decide +kernel
theorem dX12_ticks_18 : decode cX12_ticks 18 = .ok (.aload_n 0, 1) := by decide +kernel
theorem dX12_ticks_19 : decode cX12_ticks 19 = .ok (.iload_n 1, 1) := by decide +kernel
theorem dX12_ticks_20 : decode cX12_ticks 20 = .ok (.invokevirtual 177, 3) := by decide +kernel
theorem dX12_ticks_23 : decode cX12_ticks 23 = .ok (.ifCond .eq 9, 3) := by decide +kernel
theorem dX12_ticks_26 : decode cX12_ticks 26 = .ok (.aload_n 0, 1) := by decide +kernel
theorem dX12_ticks_27 : decode cX12_ticks 27 = .ok (.iconst 3, 1) := by decide +kernel
theorem dX12_ticks_28 : decode cX12_ticks 28 = .ok (.invokevirtual 61, 3) := by decide +kernel
theorem dX12_ticks_31 : decode cX12_ticks 31 = .ok (.ireturn, 1) := by decide +kernel
theorem dX12_ticks_32 : decode cX12_ticks 32 = .ok (.iconst 0, 1) := by decide +kernel
theorem dX12_ticks_33 : decode cX12_ticks 33 = .ok (.istore_n 2, 1) := by decide +kernel
theorem dX12_ticks_34 : decode cX12_ticks 34 = .ok (.iload_n 2, 1) := by decide +kernel
theorem dX12_ticks_35 : decode cX12_ticks 35 = .ok (.iload_n 1, 1) := by decide +kernel
theorem dX12_ticks_36 : decode cX12_ticks 36 = .ok (.if_icmp .ge 17, 3) := by decide +kernel
theorem dX12_ticks_39 : decode cX12_ticks 39 = .ok (.aload_n 0, 1) := by decide +kernel
theorem dX12_ticks_40 : decode cX12_ticks 40 = .ok (.aload_n 0, 1) := by decide +kernel
theorem dX12_ticks_41 : decode cX12_ticks 41 = .ok (.getfield 7, 3) := by decide +kernel
theorem dX12_ticks_44 : decode cX12_ticks 44 = .ok (.invokevirtual 180, 3) := by decide +kernel
theorem dX12_ticks_47 : decode cX12_ticks 47 = .ok (.iinc 2 1, 3) := by decide +kernel
theorem dX12_ticks_50 : decode cX12_ticks 50 = .ok (.goto (-16), 3) := by decide +kernel
theorem dX12_ticks_53 : decode cX12_ticks 53 = .ok (.aload_n 0, 1) := by decide +kernel
theorem dX12_ticks_54 : decode cX12_ticks 54 = .ok (.getfield 7, 3) := by decide +kernel
theorem dX12_ticks_57 : decode cX12_ticks 57 = .ok (.iconst 0, 1) := by decide +kernel
theorem dX12_ticks_58 : decode cX12_ticks 58 = .ok (.iaload, 1) := by decide +kernel
theorem dX12_ticks_59 : decode cX12_ticks 59 = .ok (.ireturn, 1) := by decide +kernel
theorem dX12_gusts_0 : decode cX12_gusts 0 = .ok (.iload_n 1, 1) := by decide +kernel
theorem dX12_gusts_1 : decode cX12_gusts 1 = .ok (.i2l, 1) := by decide +kernel
theorem dX12_gusts_2 : decode cX12_gusts 2 = .ok (.lconst 1, 1) := by decide +kernel
theorem dX12_gusts_3 : decode cX12_gusts 3 = .ok (.ldc2_w 175, 3) := by decide +kernel
theorem dX12_gusts_6 : decode cX12_gusts 6 = .ok (.invokestatic 51, 3) := by decide +kernel
theorem dX12_gusts_9 : decode cX12_gusts 9 = .ok (.ifCond .ne 9, 3) := by decide +kernel
theorem dX12_gusts_12 : decode cX12_gusts 12 = .ok (.aload_n 0, 1) := by decide +kernel
theorem dX12_gusts_13 : decode cX12_gusts 13 = .ok (.iconst 1, 1) := by decide +kernel
theorem dX12_gusts_14 : decode cX12_gusts 14 = .ok (.invokevirtual 61, 3) := by decide +kernel
theorem dX12_gusts_17 : decode cX12_gusts 17 = .ok (.ireturn, 1) := by decide +kernel
theorem dX12_gusts_18 : decode cX12_gusts 18 = .ok (.aload_n 0, 1) := by decide +kernel
theorem dX12_gusts_19 : decode cX12_gusts 19 = .ok (.iload_n 1, 1) := by decide +kernel
theorem dX12_gusts_20 : decode cX12_gusts 20 = .ok (.invokevirtual 177, 3) := by decide +kernel
theorem dX12_gusts_23 : decode cX12_gusts 23 = .ok (.ifCond .eq 9, 3) := by decide +kernel
theorem dX12_gusts_26 : decode cX12_gusts 26 = .ok (.aload_n 0, 1) := by decide +kernel
theorem dX12_gusts_27 : decode cX12_gusts 27 = .ok (.iconst 3, 1) := by decide +kernel
theorem dX12_gusts_28 : decode cX12_gusts 28 = .ok (.invokevirtual 61, 3) := by decide +kernel
theorem dX12_gusts_31 : decode cX12_gusts 31 = .ok (.ireturn, 1) := by decide +kernel
theorem dX12_gusts_32 : decode cX12_gusts 32 = .ok (.aload_n 0, 1) := by decide +kernel
theorem dX12_gusts_33 : decode cX12_gusts 33 = .ok (.getfield 7, 3) := by decide +kernel
theorem dX12_gusts_36 : decode cX12_gusts 36 = .ok (.bipush 7, 2) := by decide +kernel
theorem dX12_gusts_38 : decode cX12_gusts 38 = .ok (.iaload, 1) := by decide +kernel
theorem dX12_gusts_39 : decode cX12_gusts 39 = .ok (.istore_n 2, 1) := by decide +kernel
theorem dX12_gusts_40 : decode cX12_gusts 40 = .ok (.iconst 0, 1) := by decide +kernel
theorem dX12_gusts_41 : decode cX12_gusts 41 = .ok (.istore_n 3, 1) := by decide +kernel
theorem dX12_gusts_42 : decode cX12_gusts 42 = .ok (.iload_n 3, 1) := by decide +kernel
theorem dX12_gusts_43 : decode cX12_gusts 43 = .ok (.iload_n 1, 1) := by decide +kernel
theorem dX12_gusts_44 : decode cX12_gusts 44 = .ok (.if_icmp .ge 58, 3) := by decide +kernel
theorem dX12_gusts_47 : decode cX12_gusts 47 = .ok (.aload_n 0, 1) := by decide +kernel
theorem dX12_gusts_48 : decode cX12_gusts 48 = .ok (.getfield 7, 3) := by decide +kernel
theorem dX12_gusts_51 : decode cX12_gusts 51 = .ok (.bipush 13, 2) := by decide +kernel
theorem dX12_gusts_53 : decode cX12_gusts 53 = .ok (.aload_n 0, 1) := by decide +kernel
theorem dX12_gusts_54 : decode cX12_gusts 54 = .ok (.getfield 7, 3) := by decide +kernel
theorem dX12_gusts_57 : decode cX12_gusts 57 = .ok (.bipush 13, 2) := by decide +kernel
theorem dX12_gusts_59 : decode cX12_gusts 59 = .ok (.iaload, 1) := by decide +kernel
theorem dX12_gusts_60 : decode cX12_gusts 60 = .ok (.ldc 184, 2) := by decide +kernel
theorem dX12_gusts_62 : decode cX12_gusts 62 = .ok (.imul, 1) := by decide +kernel
theorem dX12_gusts_63 : decode cX12_gusts 63 = .ok (.sipush 12345, 3) := by decide +kernel
theorem dX12_gusts_66 : decode cX12_gusts 66 = .ok (.iadd, 1) := by decide +kernel
theorem dX12_gusts_67 : decode cX12_gusts 67 = .ok (.iastore, 1) := by decide +kernel
theorem dX12_gusts_68 : decode cX12_gusts 68 = .ok (.aload_n 0, 1) := by decide +kernel
theorem dX12_gusts_69 : decode cX12_gusts 69 = .ok (.getfield 7, 3) := by decide +kernel
theorem dX12_gusts_72 : decode cX12_gusts 72 = .ok (.bipush 7, 2) := by decide +kernel
theorem dX12_gusts_74 : decode cX12_gusts 74 = .ok (.aload_n 0, 1) := by decide +kernel
theorem dX12_gusts_75 : decode cX12_gusts 75 = .ok (.getfield 7, 3) := by decide +kernel
theorem dX12_gusts_78 : decode cX12_gusts 78 = .ok (.bipush 13, 2) := by decide +kernel
theorem dX12_gusts_80 : decode cX12_gusts 80 = .ok (.iaload, 1) := by decide +kernel
theorem dX12_gusts_81 : decode cX12_gusts 81 = .ok (.bipush 8, 2) := by decide +kernel
theorem dX12_gusts_83 : decode cX12_gusts 83 = .ok (.iushr, 1) := by decide +kernel
theorem dX12_gusts_84 : decode cX12_gusts 84 = .ok (.bipush 100, 2) := by decide +kernel
theorem dX12_gusts_86 : decode cX12_gusts 86 = .ok (.irem, 1) := by decide +kernel
theorem dX12_gusts_87 : decode cX12_gusts 87 = .ok (.iastore, 1) := by decide +kernel
theorem dX12_gusts_88 : decode cX12_gusts 88 = .ok (.aload_n 0, 1) := by decide +kernel
theorem dX12_gusts_89 : decode cX12_gusts 89 = .ok (.aload_n 0, 1) := by decide +kernel
theorem dX12_gusts_90 : decode cX12_gusts 90 = .ok (.getfield 7, 3) := by decide +kernel
theorem dX12_gusts_93 : decode cX12_gusts 93 = .ok (.invokevirtual 180, 3) := by decide +kernel
theorem dX12_gusts_96 : decode cX12_gusts 96 = .ok (.iinc 3 1, 3) := by decide +kernel
theorem dX12_gusts_99 : decode cX12_gusts 99 = .ok (.goto (-57), 3) := by decide +kernel
theorem dX12_gusts_102 : decode cX12_gusts 102 = .ok (.aload_n 0, 1) := by decide +kernel
theorem dX12_gusts_103 : decode cX12_gusts 103 = .ok (.getfield 7, 3) := by decide +kernel
theorem dX12_gusts_106 : decode cX12_gusts 106 = .ok (.bipush 7, 2) := by decide +kernel
theorem dX12_gusts_108 : decode cX12_gusts 108 = .ok (.iload_n 2, 1) := by decide +kernel
theorem dX12_gusts_109 : decode cX12_gusts 109 = .ok (.iastore, 1) := by decide +kernel
theorem dX12_gusts_110 : decode cX12_gusts 110 = .ok (.aload_n 0, 1) := by decide +kernel
theorem dX12_gusts_111 : decode cX12_gusts 111 = .ok (.getfield 7, 3) := by decide +kernel
theorem dX12_gusts_114 : decode cX12_gusts 114 = .ok (.iconst 0, 1) := by decide +kernel
theorem dX12_gusts_115 : decode cX12_gusts 115 = .ok (.iaload, 1) := by decide +kernel
theorem dX12_gusts_116 : decode cX12_gusts 116 = .ok (.ireturn, 1) := by decide +kernel
theorem dX12_saltOf_0 : decode cX12_saltOf 0 = .ok (.iconst 0, 1) := by decide +kernel
theorem dX12_saltOf_1 : decode cX12_saltOf 1 = .ok (.istore_n 1, 1) := by decide +kernel
theorem dX12_saltOf_2 : decode cX12_saltOf 2 = .ok (.iconst 0, 1) := by decide +kernel
theorem dX12_saltOf_3 : decode cX12_saltOf 3 = .ok (.istore_n 2, 1) := by decide +kernel
theorem dX12_saltOf_4 : decode cX12_saltOf 4 = .ok (.iload_n 2, 1) := by decide +kernel
theorem dX12_saltOf_5 : decode cX12_saltOf 5 = .ok (.aload_n 0, 1) := by decide +kernel
theorem dX12_saltOf_6 : decode cX12_saltOf 6 = .ok (.iconst 1, 1) := by decide +kernel
theorem dX12_saltOf_7 : decode cX12_saltOf 7 = .ok (.iaload, 1) := by decide +kernel
theorem dX12_saltOf_8 : decode cX12_saltOf 8 = .ok (.if_icmp .ge 19, 3) := by decide +kernel
theorem dX12_saltOf_11 : decode cX12_saltOf 11 = .ok (.iload_n 1, 1) := by decide +kernel
theorem dX12_saltOf_12 : decode cX12_saltOf 12 = .ok (.aload_n 0, 1) := by decide +kernel
theorem dX12_saltOf_13 : decode cX12_saltOf 13 = .ok (.sipush 140, 3) := by decide +kernel
theorem dX12_saltOf_16 : decode cX12_saltOf 16 = .ok (.iload_n 2, 1) := by decide +kernel
theorem dX12_saltOf_17 : decode cX12_saltOf 17 = .ok (.iadd, 1) := by decide +kernel
theorem dX12_saltOf_18 : decode cX12_saltOf 18 = .ok (.iaload, 1) := by decide +kernel
theorem dX12_saltOf_19 : decode cX12_saltOf 19 = .ok (.iadd, 1) := by decide +kernel
theorem dX12_saltOf_20 : decode cX12_saltOf 20 = .ok (.istore_n 1, 1) := by decide +kernel
theorem dX12_saltOf_21 : decode cX12_saltOf 21 = .ok (.iinc 2 1, 3) := by decide +kernel
theorem dX12_saltOf_24 : decode cX12_saltOf 24 = .ok (.goto (-20), 3) := by decide +kernel
theorem dX12_saltOf_27 : decode cX12_saltOf 27 = .ok (.iload_n 1, 1) := by decide +kernel
theorem dX12_saltOf_28 : decode cX12_saltOf 28 = .ok (.ireturn, 1) := by decide +kernel
theorem dX12_massOf_0 : decode cX12_massOf 0 = .ok (.iconst 0, 1) := by decide +kernel
theorem dX12_massOf_1 : decode cX12_massOf 1 = .ok (.istore_n 1, 1) := by decide +kernel
theorem dX12_massOf_2 : decode cX12_massOf 2 = .ok (.iconst 0, 1) := by decide +kernel
theorem dX12_massOf_3 : decode cX12_massOf 3 = .ok (.istore_n 2, 1) := by decide +kernel
theorem dX12_massOf_4 : decode cX12_massOf 4 = .ok (.iload_n 2, 1) := by decide +kernel
theorem dX12_massOf_5 : decode cX12_massOf 5 = .ok (.aload_n 0, 1) := by decide +kernel
theorem dX12_massOf_6 : decode cX12_massOf 6 = .ok (.iconst 1, 1) := by decide +kernel
theorem dX12_massOf_7 : decode cX12_massOf 7 = .ok (.iaload, 1) := by decide +kernel
theorem dX12_massOf_8 : decode cX12_massOf 8 = .ok (.if_icmp .ge 18, 3) := by decide +kernel
theorem dX12_massOf_11 : decode cX12_massOf 11 = .ok (.iload_n 1, 1) := by decide +kernel
theorem dX12_massOf_12 : decode cX12_massOf 12 = .ok (.aload_n 0, 1) := by decide +kernel
theorem dX12_massOf_13 : decode cX12_massOf 13 = .ok (.bipush 100, 2) := by decide +kernel
theorem dX12_massOf_15 : decode cX12_massOf 15 = .ok (.iload_n 2, 1) := by decide +kernel
theorem dX12_massOf_16 : decode cX12_massOf 16 = .ok (.iadd, 1) := by decide +kernel
theorem dX12_massOf_17 : decode cX12_massOf 17 = .ok (.iaload, 1) := by decide +kernel
theorem dX12_massOf_18 : decode cX12_massOf 18 = .ok (.iadd, 1) := by decide +kernel
theorem dX12_massOf_19 : decode cX12_massOf 19 = .ok (.istore_n 1, 1) := by decide +kernel
theorem dX12_massOf_20 : decode cX12_massOf 20 = .ok (.iinc 2 1, 3) := by decide +kernel
theorem dX12_massOf_23 : decode cX12_massOf 23 = .ok (.goto (-19), 3) := by decide +kernel
theorem dX12_massOf_26 : decode cX12_massOf 26 = .ok (.iload_n 1, 1) := by decide +kernel
theorem dX12_massOf_27 : decode cX12_massOf 27 = .ok (.aload_n 0, 1) := by decide +kernel
theorem dX12_massOf_28 : decode cX12_massOf 28 = .ok (.invokestatic 185, 3) := by decide +kernel
theorem dX12_massOf_31 : decode cX12_massOf 31 = .ok (.sipush 1000, 3) := by decide +kernel
theorem dX12_massOf_34 : decode cX12_massOf 34 = .ok (.idiv, 1) := by decide +kernel
theorem dX12_massOf_35 : decode cX12_massOf 35 = .ok (.iadd, 1) := by decide +kernel
theorem dX12_massOf_36 : decode cX12_massOf 36 = .ok (.ireturn, 1) := by decide +kernel
theorem dX12_mass_0 : decode cX12_mass 0 = .ok (.aload_n 0, 1) := by decide +kernel
theorem dX12_mass_1 : decode cX12_mass 1 = .ok (.getfield 7, 3) := by decide +kernel
theorem dX12_mass_4 : decode cX12_mass 4 = .ok (.invokestatic 188, 3) := by decide +kernel
theorem dX12_mass_7 : decode cX12_mass 7 = .ok (.ireturn, 1) := by decide +kernel
theorem dX12_findRings_0 : decode cX12_findRings 0 = .ok (.aload_n 0, 1) := by decide +kernel
theorem dX12_findRings_1 : decode cX12_findRings 1 = .ok (.iconst 0, 1) := by decide +kernel
theorem dX12_findRings_2 : decode cX12_findRings 2 = .ok (.putfield 191, 3) := by decide +kernel
theorem dX12_findRings_5 : decode cX12_findRings 5 = .ok (.iconst 0, 1) := by decide +kernel
theorem dX12_findRings_6 : decode cX12_findRings 6 = .ok (.istore_n 2, 1) := by decide +kernel
theorem dX12_findRings_7 : decode cX12_findRings 7 = .ok (.iload_n 2, 1) := by decide +kernel
theorem dX12_findRings_8 : decode cX12_findRings 8 = .ok (.aload_n 1, 1) := by decide +kernel
theorem dX12_findRings_9 : decode cX12_findRings 9 = .ok (.iconst 1, 1) := by decide +kernel
theorem dX12_findRings_10 : decode cX12_findRings 10 = .ok (.iaload, 1) := by decide +kernel
theorem dX12_findRings_11 : decode cX12_findRings 11 = .ok (.if_icmp .ge 86, 3) := by decide +kernel
theorem dX12_findRings_14 : decode cX12_findRings 14 = .ok (.aload_n 1, 1) := by decide +kernel
theorem dX12_findRings_15 : decode cX12_findRings 15 = .ok (.iload_n 2, 1) := by decide +kernel
theorem dX12_findRings_16 : decode cX12_findRings 16 = .ok (.invokestatic 65, 3) := by decide +kernel
theorem dX12_findRings_19 : decode cX12_findRings 19 = .ok (.istore_n 3, 1) := by decide +kernel
theorem dX12_findRings_20 : decode cX12_findRings 20 = .ok (.iload_n 3, 1) := by decide +kernel
theorem dX12_findRings_21 : decode cX12_findRings 21 = .ok (.ifCond .le 42, 3) := by decide +kernel
theorem dX12_findRings_24 : decode cX12_findRings 24 = .ok (.iload_n 2, 1) := by decide +kernel
theorem dX12_findRings_25 : decode cX12_findRings 25 = .ok (.ifCond .eq 14, 3) := by decide +kernel
theorem dX12_findRings_28 : decode cX12_findRings 28 = .ok (.aload_n 1, 1) := by decide +kernel
theorem dX12_findRings_29 : decode cX12_findRings 29 = .ok (.iload_n 2, 1) := by decide +kernel
theorem dX12_findRings_30 : decode cX12_findRings 30 = .ok (.iconst 1, 1) := by decide +kernel
theorem dX12_findRings_31 : decode cX12_findRings 31 = .ok (.isub, 1) := by decide +kernel
theorem dX12_findRings_32 : decode cX12_findRings 32 = .ok (.invokestatic 65, 3) := by decide +kernel
theorem dX12_findRings_35 : decode cX12_findRings 35 = .ok (.iload_n 3, 1) := by decide +kernel
theorem dX12_findRings_36 : decode cX12_findRings 36 = .ok (.if_icmp .ge 27, 3) := by decide +kernel
theorem dX12_findRings_39 : decode cX12_findRings 39 = .ok (.iload_n 2, 1) := by decide +kernel
theorem dX12_findRings_40 : decode cX12_findRings 40 = .ok (.aload_n 1, 1) := by decide +kernel
theorem dX12_findRings_41 : decode cX12_findRings 41 = .ok (.iconst 1, 1) := by decide +kernel
theorem dX12_findRings_42 : decode cX12_findRings 42 = .ok (.iaload, 1) := by decide +kernel
theorem dX12_findRings_43 : decode cX12_findRings 43 = .ok (.iconst 1, 1) := by decide +kernel
theorem dX12_findRings_44 : decode cX12_findRings 44 = .ok (.isub, 1) := by decide +kernel
theorem dX12_findRings_45 : decode cX12_findRings 45 = .ok (.if_icmp .eq 14, 3) := by decide +kernel
theorem dX12_findRings_48 : decode cX12_findRings 48 = .ok (.aload_n 1, 1) := by decide +kernel
theorem dX12_findRings_49 : decode cX12_findRings 49 = .ok (.iload_n 2, 1) := by decide +kernel
theorem dX12_findRings_50 : decode cX12_findRings 50 = .ok (.iconst 1, 1) := by decide +kernel
theorem dX12_findRings_51 : decode cX12_findRings 51 = .ok (.iadd, 1) := by decide +kernel
theorem dX12_findRings_52 : decode cX12_findRings 52 = .ok (.invokestatic 65, 3) := by decide +kernel
theorem dX12_findRings_55 : decode cX12_findRings 55 = .ok (.iload_n 3, 1) := by decide +kernel
theorem dX12_findRings_56 : decode cX12_findRings 56 = .ok (.if_icmp .ge 7, 3) := by decide +kernel
theorem dX12_findRings_59 : decode cX12_findRings 59 = .ok (.iconst 1, 1) := by decide +kernel
theorem dX12_findRings_60 : decode cX12_findRings 60 = .ok (.goto 4, 3) := by decide +kernel
theorem dX12_findRings_63 : decode cX12_findRings 63 = .ok (.iconst 0, 1) := by decide +kernel
theorem dX12_findRings_64 : decode cX12_findRings 64 = .ok (.istore 4, 2) := by decide +kernel
theorem dX12_findRings_66 : decode cX12_findRings 66 = .ok (.iload 4, 2) := by decide +kernel
theorem dX12_findRings_68 : decode cX12_findRings 68 = .ok (.ifCond .eq 23, 3) := by decide +kernel
theorem dX12_findRings_71 : decode cX12_findRings 71 = .ok (.aload_n 0, 1) := by decide +kernel
theorem dX12_findRings_72 : decode cX12_findRings 72 = .ok (.getfield 25, 3) := by decide +kernel
theorem dX12_findRings_75 : decode cX12_findRings 75 = .ok (.aload_n 0, 1) := by decide +kernel
theorem dX12_findRings_76 : decode cX12_findRings 76 = .ok (.getfield 191, 3) := by decide +kernel
theorem dX12_findRings_79 : decode cX12_findRings 79 = .ok (.iload_n 2, 1) := by decide +kernel
theorem dX12_findRings_80 : decode cX12_findRings 80 = .ok (.iastore, 1) := by decide +kernel
theorem dX12_findRings_81 : decode cX12_findRings 81 = .ok (.aload_n 0, 1) := by decide +kernel
theorem dX12_findRings_82 : decode cX12_findRings 82 = .ok (.dup, 1) := by decide +kernel
theorem dX12_findRings_83 : decode cX12_findRings 83 = .ok (.getfield 191, 3) := by decide +kernel
theorem dX12_findRings_86 : decode cX12_findRings 86 = .ok (.iconst 1, 1) := by decide +kernel
theorem dX12_findRings_87 : decode cX12_findRings 87 = .ok (.iadd, 1) := by decide +kernel
theorem dX12_findRings_88 : decode cX12_findRings 88 = .ok (.putfield 191, 3) := by decide +kernel
theorem dX12_findRings_91 : decode cX12_findRings 91 = .ok (.iinc 2 1, 3) := by decide +kernel
theorem dX12_findRings_94 : decode cX12_findRings 94 = .ok (.goto (-87), 3) := by decide +kernel
theorem dX12_findRings_97 : decode cX12_findRings 97 = .ok (.return_, 1) := by decide +kernel
theorem dX12_ring_0 : decode cX12_ring 0 = .ok (.iload_n 1, 1) := by decide +kernel
theorem dX12_ring_1 : decode cX12_ring 1 = .ok (.iconst (-1), 1) := by decide +kernel
theorem dX12_ring_2 : decode cX12_ring 2 = .ok (.if_icmp .ge 9, 3) := by decide +kernel
theorem dX12_ring_5 : decode cX12_ring 5 = .ok (.aload_n 0, 1) := by decide +kernel
theorem dX12_ring_6 : decode cX12_ring 6 = .ok (.iconst 1, 1) := by decide +kernel
theorem dX12_ring_7 : decode cX12_ring 7 = .ok (.invokevirtual 61, 3) := by decide +kernel
theorem dX12_ring_10 : decode cX12_ring 10 = .ok (.ireturn, 1) := by decide +kernel
theorem dX12_ring_11 : decode cX12_ring 11 = .ok (.aload_n 0, 1) := by decide +kernel
theorem dX12_ring_12 : decode cX12_ring 12 = .ok (.aload_n 0, 1) := by decide +kernel
theorem dX12_ring_13 : decode cX12_ring 13 = .ok (.getfield 7, 3) := by decide +kernel
theorem dX12_ring_16 : decode cX12_ring 16 = .ok (.invokevirtual 194, 3) := by decide +kernel
theorem dX12_ring_19 : decode cX12_ring 19 = .ok (.iload_n 1, 1) := by decide +kernel
theorem dX12_ring_20 : decode cX12_ring 20 = .ok (.iconst (-1), 1) := by decide +kernel
theorem dX12_ring_21 : decode cX12_ring 21 = .ok (.if_icmp .ne 10, 3) := by decide +kernel
theorem dX12_ring_24 : decode cX12_ring 24 = .ok (.aload_n 0, 1) := by decide +kernel
theorem dX12_ring_25 : decode cX12_ring 25 = .ok (.getfield 191, 3) := by decide +kernel
theorem dX12_ring_28 : decode cX12_ring 28 = .ok (.goto 25, 3) := by decide +kernel
theorem dX12_ring_31 : decode cX12_ring 31 = .ok (.iload_n 1, 1) := by decide +kernel
theorem dX12_ring_32 : decode cX12_ring 32 = .ok (.aload_n 0, 1) := by decide +kernel
theorem dX12_ring_33 : decode cX12_ring 33 = .ok (.getfield 191, 3) := by decide +kernel
theorem dX12_ring_36 : decode cX12_ring 36 = .ok (.if_icmp .ge 12, 3) := by decide +kernel
theorem dX12_ring_39 : decode cX12_ring 39 = .ok (.aload_n 0, 1) := by decide +kernel
theorem dX12_ring_40 : decode cX12_ring 40 = .ok (.getfield 25, 3) := by decide +kernel
theorem dX12_ring_43 : decode cX12_ring 43 = .ok (.iload_n 1, 1) := by decide +kernel
theorem dX12_ring_44 : decode cX12_ring 44 = .ok (.iaload, 1) := by decide +kernel
theorem dX12_ring_45 : decode cX12_ring 45 = .ok (.goto 8, 3) := by decide +kernel
theorem dX12_ring_48 : decode cX12_ring 48 = .ok (.aload_n 0, 1) := by decide +kernel
theorem dX12_ring_49 : decode cX12_ring 49 = .ok (.iconst 2, 1) := by decide +kernel
theorem dX12_ring_50 : decode cX12_ring 50 = .ok (.invokevirtual 61, 3) := by decide +kernel
theorem dX12_ring_53 : decode cX12_ring 53 = .ok (.ireturn, 1) := by decide +kernel
theorem dX12_apart_0 : decode cX12_apart 0 = .ok (.aload_n 0, 1) := by decide +kernel
theorem dX12_apart_1 : decode cX12_apart 1 = .ok (.aload_n 0, 1) := by decide +kernel
theorem dX12_apart_2 : decode cX12_apart 2 = .ok (.getfield 7, 3) := by decide +kernel
theorem dX12_apart_5 : decode cX12_apart 5 = .ok (.invokevirtual 194, 3) := by decide +kernel
theorem dX12_apart_8 : decode cX12_apart 8 = .ok (.aload_n 0, 1) := by decide +kernel
theorem dX12_apart_9 : decode cX12_apart 9 = .ok (.getfield 191, 3) := by decide +kernel
theorem dX12_apart_12 : decode cX12_apart 12 = .ok (.iconst 2, 1) := by decide +kernel
theorem dX12_apart_13 : decode cX12_apart 13 = .ok (.if_icmp .ge 11, 3) := by decide +kernel
theorem dX12_apart_16 : decode cX12_apart 16 = .ok (.aload_n 0, 1) := by decide +kernel
theorem dX12_apart_17 : decode cX12_apart 17 = .ok (.iconst 2, 1) := by decide +kernel
theorem dX12_apart_18 : decode cX12_apart 18 = .ok (.invokevirtual 61, 3) := by decide +kernel
theorem dX12_apart_21 : decode cX12_apart 21 = .ok (.goto 28, 3) := by decide +kernel
theorem dX12_apart_24 : decode cX12_apart 24 = .ok (.aload_n 0, 1) := by decide +kernel
theorem dX12_apart_25 : decode cX12_apart 25 = .ok (.getfield 25, 3) := by decide +kernel
theorem dX12_apart_28 : decode cX12_apart 28 = .ok (.aload_n 0, 1) := by decide +kernel
theorem dX12_apart_29 : decode cX12_apart 29 = .ok (.getfield 191, 3) := by decide +kernel
theorem dX12_apart_32 : decode cX12_apart 32 = .ok (.iconst 1, 1) := by decide +kernel
theorem dX12_apart_33 : decode cX12_apart 33 = .ok (.isub, 1) := by decide +kernel
theorem dX12_apart_34 : decode cX12_apart 34 = .ok (.iaload, 1) := by decide +kernel
theorem dX12_apart_35 : decode cX12_apart 35 = .ok (.aload_n 0, 1) := by decide +kernel
theorem dX12_apart_36 : decode cX12_apart 36 = .ok (.getfield 25, 3) := by decide +kernel
theorem dX12_apart_39 : decode cX12_apart 39 = .ok (.iconst 0, 1) := by decide +kernel
theorem dX12_apart_40 : decode cX12_apart 40 = .ok (.iaload, 1) := by decide +kernel
theorem dX12_apart_41 : decode cX12_apart 41 = .ok (.isub, 1) := by decide +kernel
theorem dX12_apart_42 : decode cX12_apart 42 = .ok (.aload_n 0, 1) := by decide +kernel
theorem dX12_apart_43 : decode cX12_apart 43 = .ok (.getfield 191, 3) := by decide +kernel
theorem dX12_apart_46 : decode cX12_apart 46 = .ok (.iconst 1, 1) := by decide +kernel
theorem dX12_apart_47 : decode cX12_apart 47 = .ok (.isub, 1) := by decide +kernel
theorem dX12_apart_48 : decode cX12_apart 48 = .ok (.idiv, 1) := by decide +kernel
theorem dX12_apart_49 : decode cX12_apart 49 = .ok (.ireturn, 1) := by decide +kernel
theorem dX12_isAhead_0 : decode cX12_isAhead 0 = .ok (.iload_n 0, 1) := by decide +kernel
theorem dX12_isAhead_1 : decode cX12_isAhead 1 = .ok (.i2l, 1) := by decide +kernel
theorem dX12_isAhead_2 : decode cX12_isAhead 2 = .ok (.lconst 0, 1) := by decide +kernel
theorem dX12_isAhead_3 : decode cX12_isAhead 3 = .ok (.ldc2_w 197, 3) := by decide +kernel
theorem dX12_isAhead_6 : decode cX12_isAhead 6 = .ok (.invokestatic 51, 3) := by decide +kernel
theorem dX12_isAhead_9 : decode cX12_isAhead 9 = .ok (.ireturn, 1) := by decide +kernel
theorem dX12_goesAhead_0 : decode cX12_goesAhead 0 = .ok (.iconst 0, 1) := by decide +kernel
theorem dX12_goesAhead_1 : decode cX12_goesAhead 1 = .ok (.istore_n 2, 1) := by decide +kernel
theorem dX12_goesAhead_2 : decode cX12_goesAhead 2 = .ok (.iload_n 2, 1) := by decide +kernel
theorem dX12_goesAhead_3 : decode cX12_goesAhead 3 = .ok (.iload_n 1, 1) := by decide +kernel
theorem dX12_goesAhead_4 : decode cX12_goesAhead 4 = .ok (.if_icmp .ge 17, 3) := by decide +kernel
theorem dX12_goesAhead_7 : decode cX12_goesAhead 7 = .ok (.aload_n 0, 1) := by decide +kernel
theorem dX12_goesAhead_8 : decode cX12_goesAhead 8 = .ok (.aload_n 0, 1) := by decide +kernel
theorem dX12_goesAhead_9 : decode cX12_goesAhead 9 = .ok (.getfield 13, 3) := by decide +kernel
theorem dX12_goesAhead_12 : decode cX12_goesAhead 12 = .ok (.invokevirtual 180, 3) := by decide +kernel
theorem dX12_goesAhead_15 : decode cX12_goesAhead 15 = .ok (.iinc 2 1, 3) := by decide +kernel
theorem dX12_goesAhead_18 : decode cX12_goesAhead 18 = .ok (.goto (-16), 3) := by decide +kernel
theorem dX12_goesAhead_21 : decode cX12_goesAhead 21 = .ok (.return_, 1) := by decide +kernel
theorem dX12_ahead_0 : decode cX12_ahead 0 = .ok (.aload_n 0, 1) := by decide +kernel
theorem dX12_ahead_1 : decode cX12_ahead 1 = .ok (.getfield 7, 3) := by decide +kernel
theorem dX12_ahead_4 : decode cX12_ahead 4 = .ok (.aload_n 0, 1) := by decide +kernel
theorem dX12_ahead_5 : decode cX12_ahead 5 = .ok (.getfield 13, 3) := by decide +kernel
theorem dX12_ahead_8 : decode cX12_ahead 8 = .ok (.invokestatic 199, 3) := by decide +kernel
theorem dX12_ahead_11 : decode cX12_ahead 11 = .ok (.aload_n 0, 1) := by decide +kernel
theorem dX12_ahead_12 : decode cX12_ahead 12 = .ok (.iload_n 1, 1) := by decide +kernel
theorem dX12_ahead_13 : decode cX12_ahead 13 = .ok (.invokevirtual 203, 3) := by decide +kernel
theorem dX12_ahead_16 : decode cX12_ahead 16 = .ok (.return_, 1) := by decide +kernel
theorem dX12_then_0 : decode cX12_then 0 = .ok (.iload_n 1, 1) := by decide +kernel
theorem dX12_then_1 : decode cX12_then 1 = .ok (.invokestatic 207, 3) := by decide +kernel
theorem dX12_then_4 : decode cX12_then 4 = .ok (.ifCond .eq 15, 3) := by decide +kernel
theorem dX12_then_7 : decode cX12_then 7 = .ok (.iload_n 2, 1) := by decide +kernel
theorem dX12_then_8 : decode cX12_then 8 = .ok (.i2l, 1) := by decide +kernel
theorem dX12_then_9 : decode cX12_then 9 = .ok (.lconst 0, 1) := by decide +kernel
theorem dX12_then_10 : decode cX12_then 10 = .ok (.ldc2_w 90, 3) := by decide +kernel
theorem dX12_then_13 : decode cX12_then 13 = .ok (.invokestatic 51, 3) := by decide +kernel
theorem dX12_then_16 : decode cX12_then 16 = .ok (.ifCond .ne 9, 3) := by decide +kernel
theorem dX12_then_19 : decode cX12_then 19 = .ok (.aload_n 0, 1) := by decide +kernel
theorem dX12_then_20 : decode cX12_then 20 = .ok (.iconst 1, 1) := by decide +kernel
theorem dX12_then_21 : decode cX12_then 21 = .ok (.invokevirtual 61, 3) := by decide +kernel
theorem dX12_then_24 : decode cX12_then 24 = .ok (.ireturn, 1) := by decide +kernel
theorem dX12_then_25 : decode cX12_then 25 = .ok (.aload_n 0, 1) := by decide +kernel
theorem dX12_then_26 : decode cX12_then 26 = .ok (.iload_n 1, 1) := by decide +kernel
theorem dX12_then_27 : decode cX12_then 27 = .ok (.invokevirtual 210, 3) := by decide +kernel
theorem dX12_then_30 : decode cX12_then 30 = .ok (.iload_n 2, 1) := by decide +kernel
theorem dX12_then_31 : decode cX12_then 31 = .ok (.tableswitch 96 0 5 #[37, 44, 57, 65, 72, 79], 37) := by decide +kernel
theorem dX12_then_68 : decode cX12_then 68 = .ok (.aload_n 0, 1) := by decide +kernel
theorem dX12_then_69 : decode cX12_then 69 = .ok (.getfield 13, 3) := by decide +kernel
theorem dX12_then_72 : decode cX12_then 72 = .ok (.iconst 1, 1) := by decide +kernel
theorem dX12_then_73 : decode cX12_then 73 = .ok (.iaload, 1) := by decide +kernel
theorem dX12_then_74 : decode cX12_then 74 = .ok (.ireturn, 1) := by decide +kernel
theorem dX12_then_75 : decode cX12_then 75 = .ok (.aload_n 0, 1) := by decide +kernel
theorem dX12_then_76 : decode cX12_then 76 = .ok (.aload_n 0, 1) := by decide +kernel
theorem dX12_then_77 : decode cX12_then 77 = .ok (.getfield 13, 3) := by decide +kernel
theorem dX12_then_80 : decode cX12_then 80 = .ok (.invokevirtual 194, 3) := by decide +kernel
theorem dX12_then_83 : decode cX12_then 83 = .ok (.aload_n 0, 1) := by decide +kernel
theorem dX12_then_84 : decode cX12_then 84 = .ok (.getfield 191, 3) := by decide +kernel
theorem dX12_then_87 : decode cX12_then 87 = .ok (.ireturn, 1) := by decide +kernel
theorem dX12_then_88 : decode cX12_then 88 = .ok (.aload_n 0, 1) := by decide +kernel
theorem dX12_then_89 : decode cX12_then 89 = .ok (.getfield 13, 3) := by decide +kernel
theorem dX12_then_92 : decode cX12_then 92 = .ok (.invokestatic 188, 3) := by decide +kernel
theorem dX12_then_95 : decode cX12_then 95 = .ok (.ireturn, 1) := by decide +kernel
theorem dX12_then_96 : decode cX12_then 96 = .ok (.aload_n 0, 1) := by decide +kernel
theorem dX12_then_97 : decode cX12_then 97 = .ok (.getfield 13, 3) := by decide +kernel
theorem dX12_then_100 : decode cX12_then 100 = .ok (.iconst 2, 1) := by decide +kernel
theorem dX12_then_101 : decode cX12_then 101 = .ok (.iaload, 1) := by decide +kernel
theorem dX12_then_102 : decode cX12_then 102 = .ok (.ireturn, 1) := by decide +kernel
theorem dX12_then_103 : decode cX12_then 103 = .ok (.aload_n 0, 1) := by decide +kernel
theorem dX12_then_104 : decode cX12_then 104 = .ok (.getfield 13, 3) := by decide +kernel
theorem dX12_then_107 : decode cX12_then 107 = .ok (.iconst 3, 1) := by decide +kernel
theorem dX12_then_108 : decode cX12_then 108 = .ok (.iaload, 1) := by decide +kernel
theorem dX12_then_109 : decode cX12_then 109 = .ok (.ireturn, 1) := by decide +kernel
theorem dX12_then_110 : decode cX12_then 110 = .ok (.aload_n 0, 1) := by decide +kernel
theorem dX12_then_111 : decode cX12_then 111 = .ok (.getfield 13, 3) := by decide +kernel
theorem dX12_then_114 : decode cX12_then 114 = .ok (.bipush 100, 2) := by decide +kernel
theorem dX12_then_116 : decode cX12_then 116 = .ok (.aload_n 0, 1) := by decide +kernel
theorem dX12_then_117 : decode cX12_then 117 = .ok (.getfield 13, 3) := by decide +kernel
theorem dX12_then_120 : decode cX12_then 120 = .ok (.iconst 1, 1) := by decide +kernel
theorem dX12_then_121 : decode cX12_then 121 = .ok (.iaload, 1) := by decide +kernel
theorem dX12_then_122 : decode cX12_then 122 = .ok (.iadd, 1) := by decide +kernel
theorem dX12_then_123 : decode cX12_then 123 = .ok (.iconst 1, 1) := by decide +kernel
theorem dX12_then_124 : decode cX12_then 124 = .ok (.isub, 1) := by decide +kernel
theorem dX12_then_125 : decode cX12_then 125 = .ok (.iaload, 1) := by decide +kernel
theorem dX12_then_126 : decode cX12_then 126 = .ok (.ireturn, 1) := by decide +kernel
theorem dX12_then_127 : decode cX12_then 127 = .ok (.aload_n 0, 1) := by decide +kernel
theorem dX12_then_128 : decode cX12_then 128 = .ok (.getfield 13, 3) := by decide +kernel
theorem dX12_then_131 : decode cX12_then 131 = .ok (.invokestatic 185, 3) := by decide +kernel
theorem dX12_then_134 : decode cX12_then 134 = .ok (.ireturn, 1) := by decide +kernel
theorem dX12_wide_0 : decode cX12_wide 0 = .ok (.iload_n 1, 1) := by decide +kernel
theorem dX12_wide_1 : decode cX12_wide 1 = .ok (.invokestatic 207, 3) := by decide +kernel
theorem dX12_wide_4 : decode cX12_wide 4 = .ok (.ifCond .eq 15, 3) := by decide +kernel
theorem dX12_wide_7 : decode cX12_wide 7 = .ok (.iload_n 2, 1) := by decide +kernel
theorem dX12_wide_8 : decode cX12_wide 8 = .ok (.i2l, 1) := by decide +kernel
theorem dX12_wide_9 : decode cX12_wide 9 = .ok (.lconst 0, 1) := by decide +kernel
theorem dX12_wide_10 : decode cX12_wide 10 = .ok (.ldc2_w 213, 3) := by decide +kernel
theorem dX12_wide_13 : decode cX12_wide 13 = .ok (.invokestatic 51, 3) := by decide +kernel
theorem dX12_wide_16 : decode cX12_wide 16 = .ok (.ifCond .ne 9, 3) := by decide +kernel
theorem dX12_wide_19 : decode cX12_wide 19 = .ok (.aload_n 0, 1) := by decide +kernel
theorem dX12_wide_20 : decode cX12_wide 20 = .ok (.iconst 1, 1) := by decide +kernel
theorem dX12_wide_21 : decode cX12_wide 21 = .ok (.invokevirtual 61, 3) := by decide +kernel
theorem dX12_wide_24 : decode cX12_wide 24 = .ok (.ireturn, 1) := by decide +kernel
theorem dX12_wide_25 : decode cX12_wide 25 = .ok (.aload_n 0, 1) := by decide +kernel
theorem dX12_wide_26 : decode cX12_wide 26 = .ok (.iload_n 1, 1) := by decide +kernel
theorem dX12_wide_27 : decode cX12_wide 27 = .ok (.invokevirtual 210, 3) := by decide +kernel
theorem dX12_wide_30 : decode cX12_wide 30 = .ok (.iload_n 2, 1) := by decide +kernel
theorem dX12_wide_31 : decode cX12_wide 31 = .ok (.aload_n 0, 1) := by decide +kernel
theorem dX12_wide_32 : decode cX12_wide 32 = .ok (.getfield 13, 3) := by decide +kernel
theorem dX12_wide_35 : decode cX12_wide 35 = .ok (.iconst 1, 1) := by decide +kernel
theorem dX12_wide_36 : decode cX12_wide 36 = .ok (.iaload, 1) := by decide +kernel
theorem dX12_wide_37 : decode cX12_wide 37 = .ok (.if_icmp .ge 15, 3) := by decide +kernel
theorem dX12_wide_40 : decode cX12_wide 40 = .ok (.aload_n 0, 1) := by decide +kernel
theorem dX12_wide_41 : decode cX12_wide 41 = .ok (.getfield 13, 3) := by decide +kernel
theorem dX12_wide_44 : decode cX12_wide 44 = .ok (.bipush 100, 2) := by decide +kernel
theorem dX12_wide_46 : decode cX12_wide 46 = .ok (.iload_n 2, 1) := by decide +kernel
theorem dX12_wide_47 : decode cX12_wide 47 = .ok (.iadd, 1) := by decide +kernel
theorem dX12_wide_48 : decode cX12_wide 48 = .ok (.iaload, 1) := by decide +kernel
theorem dX12_wide_49 : decode cX12_wide 49 = .ok (.goto 8, 3) := by decide +kernel
theorem dX12_wide_52 : decode cX12_wide 52 = .ok (.aload_n 0, 1) := by decide +kernel
theorem dX12_wide_53 : decode cX12_wide 53 = .ok (.iconst 2, 1) := by decide +kernel
theorem dX12_wide_54 : decode cX12_wide 54 = .ok (.invokevirtual 61, 3) := by decide +kernel
theorem dX12_wide_57 : decode cX12_wide 57 = .ok (.ireturn, 1) := by decide +kernel
theorem dX12_placesOfRings_0 : decode cX12_placesOfRings 0 = .ok (.iconst 0, 1) := by decide +kernel
theorem dX12_placesOfRings_1 : decode cX12_placesOfRings 1 = .ok (.istore_n 1, 1) := by decide +kernel
theorem dX12_placesOfRings_2 : decode cX12_placesOfRings 2 = .ok (.iconst 0, 1) := by decide +kernel
theorem dX12_placesOfRings_3 : decode cX12_placesOfRings 3 = .ok (.istore_n 2, 1) := by decide +kernel
theorem dX12_placesOfRings_4 : decode cX12_placesOfRings 4 = .ok (.iload_n 2, 1) := by decide +kernel
theorem dX12_placesOfRings_5 : decode cX12_placesOfRings 5 = .ok (.aload_n 0, 1) := by decide +kernel
theorem dX12_placesOfRings_6 : decode cX12_placesOfRings 6 = .ok (.getfield 191, 3) := by decide +kernel
theorem dX12_placesOfRings_9 : decode cX12_placesOfRings 9 = .ok (.if_icmp .ge 18, 3) := by decide +kernel
theorem dX12_placesOfRings_12 : decode cX12_placesOfRings 12 = .ok (.iload_n 1, 1) := by decide +kernel
theorem dX12_placesOfRings_13 : decode cX12_placesOfRings 13 = .ok (.aload_n 0, 1) := by decide +kernel
theorem dX12_placesOfRings_14 : decode cX12_placesOfRings 14 = .ok (.getfield 25, 3) := by decide +kernel
theorem dX12_placesOfRings_17 : decode cX12_placesOfRings 17 = .ok (.iload_n 2, 1) := by decide +kernel
theorem dX12_placesOfRings_18 : decode cX12_placesOfRings 18 = .ok (.iaload, 1) := by decide +kernel
theorem dX12_placesOfRings_19 : decode cX12_placesOfRings 19 = .ok (.iadd, 1) := by decide +kernel
theorem dX12_placesOfRings_20 : decode cX12_placesOfRings 20 = .ok (.istore_n 1, 1) := by decide +kernel
theorem dX12_placesOfRings_21 : decode cX12_placesOfRings 21 = .ok (.iinc 2 1, 3) := by decide +kernel
theorem dX12_placesOfRings_24 : decode cX12_placesOfRings 24 = .ok (.goto (-20), 3) := by decide +kernel
theorem dX12_placesOfRings_27 : decode cX12_placesOfRings 27 = .ok (.iload_n 1, 1) := by decide +kernel
theorem dX12_placesOfRings_28 : decode cX12_placesOfRings 28 = .ok (.ireturn, 1) := by decide +kernel
theorem dX12_pace_0 : decode cX12_pace 0 = .ok (.iload_n 1, 1) := by decide +kernel
theorem dX12_pace_1 : decode cX12_pace 1 = .ok (.invokestatic 207, 3) := by decide +kernel
theorem dX12_pace_4 : decode cX12_pace 4 = .ok (.ifCond .ne 9, 3) := by decide +kernel
theorem dX12_pace_7 : decode cX12_pace 7 = .ok (.aload_n 0, 1) := by decide +kernel
theorem dX12_pace_8 : decode cX12_pace 8 = .ok (.iconst 1, 1) := by decide +kernel
theorem dX12_pace_9 : decode cX12_pace 9 = .ok (.invokevirtual 61, 3) := by decide +kernel
theorem dX12_pace_12 : decode cX12_pace 12 = .ok (.ireturn, 1) := by decide +kernel
theorem dX12_pace_13 : decode cX12_pace 13 = .ok (.aload_n 0, 1) := by decide +kernel
theorem dX12_pace_14 : decode cX12_pace 14 = .ok (.aload_n 0, 1) := by decide +kernel
theorem dX12_pace_15 : decode cX12_pace 15 = .ok (.getfield 7, 3) := by decide +kernel
theorem dX12_pace_18 : decode cX12_pace 18 = .ok (.invokevirtual 194, 3) := by decide +kernel
theorem dX12_pace_21 : decode cX12_pace 21 = .ok (.aload_n 0, 1) := by decide +kernel
theorem dX12_pace_22 : decode cX12_pace 22 = .ok (.getfield 191, 3) := by decide +kernel
theorem dX12_pace_25 : decode cX12_pace 25 = .ok (.istore_n 2, 1) := by decide +kernel
theorem dX12_pace_26 : decode cX12_pace 26 = .ok (.aload_n 0, 1) := by decide +kernel
theorem dX12_pace_27 : decode cX12_pace 27 = .ok (.invokevirtual 215, 3) := by decide +kernel
theorem dX12_pace_30 : decode cX12_pace 30 = .ok (.istore_n 3, 1) := by decide +kernel
theorem dX12_pace_31 : decode cX12_pace 31 = .ok (.aload_n 0, 1) := by decide +kernel
theorem dX12_pace_32 : decode cX12_pace 32 = .ok (.iload_n 1, 1) := by decide +kernel
theorem dX12_pace_33 : decode cX12_pace 33 = .ok (.invokevirtual 210, 3) := by decide +kernel
theorem dX12_pace_36 : decode cX12_pace 36 = .ok (.aload_n 0, 1) := by decide +kernel
theorem dX12_pace_37 : decode cX12_pace 37 = .ok (.aload_n 0, 1) := by decide +kernel
theorem dX12_pace_38 : decode cX12_pace 38 = .ok (.getfield 13, 3) := by decide +kernel
theorem dX12_pace_41 : decode cX12_pace 41 = .ok (.invokevirtual 194, 3) := by decide +kernel
theorem dX12_pace_44 : decode cX12_pace 44 = .ok (.iload_n 2, 1) := by decide +kernel
theorem dX12_pace_45 : decode cX12_pace 45 = .ok (.ifCond .eq 11, 3) := by decide +kernel
theorem dX12_pace_48 : decode cX12_pace 48 = .ok (.iload_n 2, 1) := by decide +kernel
theorem dX12_pace_49 : decode cX12_pace 49 = .ok (.aload_n 0, 1) := by decide +kernel
theorem dX12_pace_50 : decode cX12_pace 50 = .ok (.getfield 191, 3) := by decide +kernel
theorem dX12_pace_53 : decode cX12_pace 53 = .ok (.if_icmp .eq 11, 3) := by decide +kernel
theorem dX12_pace_56 : decode cX12_pace 56 = .ok (.aload_n 0, 1) := by decide +kernel
theorem dX12_pace_57 : decode cX12_pace 57 = .ok (.iconst 2, 1) := by decide +kernel
theorem dX12_pace_58 : decode cX12_pace 58 = .ok (.invokevirtual 61, 3) := by decide +kernel
theorem dX12_pace_61 : decode cX12_pace 61 = .ok (.goto 9, 3) := by decide +kernel
theorem dX12_pace_64 : decode cX12_pace 64 = .ok (.aload_n 0, 1) := by decide +kernel
theorem dX12_pace_65 : decode cX12_pace 65 = .ok (.invokevirtual 215, 3) := by decide +kernel
theorem dX12_pace_68 : decode cX12_pace 68 = .ok (.iload_n 3, 1) := by decide +kernel
theorem dX12_pace_69 : decode cX12_pace 69 = .ok (.isub, 1) := by decide +kernel
theorem dX12_pace_70 : decode cX12_pace 70 = .ok (.ireturn, 1) := by decide +kernel
theorem dX12_needed_0 : decode cX12_needed 0 = .ok (.iload_n 1, 1) := by decide +kernel
theorem dX12_needed_1 : decode cX12_needed 1 = .ok (.invokestatic 207, 3) := by decide +kernel
theorem dX12_needed_4 : decode cX12_needed 4 = .ok (.ifCond .ne 9, 3) := by decide +kernel
theorem dX12_needed_7 : decode cX12_needed 7 = .ok (.aload_n 0, 1) := by decide +kernel
theorem dX12_needed_8 : decode cX12_needed 8 = .ok (.iconst 1, 1) := by decide +kernel
theorem dX12_needed_9 : decode cX12_needed 9 = .ok (.invokevirtual 61, 3) := by decide +kernel
theorem dX12_needed_12 : decode cX12_needed 12 = .ok (.ireturn, 1) := by decide +kernel
theorem dX12_needed_13 : decode cX12_needed 13 = .ok (.aload_n 0, 1) := by decide +kernel
theorem dX12_needed_14 : decode cX12_needed 14 = .ok (.iload_n 1, 1) := by decide +kernel
theorem dX12_needed_15 : decode cX12_needed 15 = .ok (.invokevirtual 210, 3) := by decide +kernel
theorem dX12_needed_18 : decode cX12_needed 18 = .ok (.aload_n 0, 1) := by decide +kernel
theorem dX12_needed_19 : decode cX12_needed 19 = .ok (.aload_n 0, 1) := by decide +kernel
theorem dX12_needed_20 : decode cX12_needed 20 = .ok (.getfield 13, 3) := by decide +kernel
theorem dX12_needed_23 : decode cX12_needed 23 = .ok (.invokevirtual 194, 3) := by decide +kernel
theorem dX12_needed_26 : decode cX12_needed 26 = .ok (.aload_n 0, 1) := by decide +kernel
theorem dX12_needed_27 : decode cX12_needed 27 = .ok (.getfield 191, 3) := by decide +kernel
theorem dX12_needed_30 : decode cX12_needed 30 = .ok (.istore_n 2, 1) := by decide +kernel
theorem dX12_needed_31 : decode cX12_needed 31 = .ok (.iconst 0, 1) := by decide +kernel
theorem dX12_needed_32 : decode cX12_needed 32 = .ok (.istore_n 3, 1) := by decide +kernel
theorem dX12_needed_33 : decode cX12_needed 33 = .ok (.iconst 0, 1) := by decide +kernel
theorem dX12_needed_34 : decode cX12_needed 34 = .ok (.istore 4, 2) := by decide +kernel
theorem dX12_needed_36 : decode cX12_needed 36 = .ok (.iload 4, 2) := by decide +kernel
theorem dX12_needed_38 : decode cX12_needed 38 = .ok (.aload_n 0, 1) := by decide +kernel
theorem dX12_needed_39 : decode cX12_needed 39 = .ok (.getfield 7, 3) := by decide +kernel
theorem dX12_needed_42 : decode cX12_needed 42 = .ok (.bipush 11, 2) := by decide +kernel
theorem dX12_needed_44 : decode cX12_needed 44 = .ok (.iaload, 1) := by decide +kernel
theorem dX12_needed_45 : decode cX12_needed 45 = .ok (.if_icmp .ge 84, 3) := by decide +kernel
theorem dX12_needed_48 : decode cX12_needed 48 = .ok (.aload_n 0, 1) := by decide +kernel
theorem dX12_needed_49 : decode cX12_needed 49 = .ok (.getfield 7, 3) := by decide +kernel
theorem dX12_needed_52 : decode cX12_needed 52 = .ok (.bipush 10, 2) := by decide +kernel
theorem dX12_needed_54 : decode cX12_needed 54 = .ok (.iaload, 1) := by decide +kernel
theorem dX12_needed_55 : decode cX12_needed 55 = .ok (.iload 4, 2) := by decide +kernel
theorem dX12_needed_57 : decode cX12_needed 57 = .ok (.ishr, 1) := by decide +kernel
theorem dX12_needed_58 : decode cX12_needed 58 = .ok (.iconst 1, 1) := by decide +kernel
theorem dX12_needed_59 : decode cX12_needed 59 = .ok (.iand, 1) := by decide +kernel
theorem dX12_needed_60 : decode cX12_needed 60 = .ok (.iconst 1, 1) := by decide +kernel
theorem dX12_needed_61 : decode cX12_needed 61 = .ok (.if_icmp .ne 62, 3) := by decide +kernel
theorem dX12_needed_64 : decode cX12_needed 64 = .ok (.aload_n 0, 1) := by decide +kernel
theorem dX12_needed_65 : decode cX12_needed 65 = .ok (.getfield 7, 3) := by decide +kernel
theorem dX12_needed_68 : decode cX12_needed 68 = .ok (.aload_n 0, 1) := by decide +kernel
theorem dX12_needed_69 : decode cX12_needed 69 = .ok (.getfield 13, 3) := by decide +kernel
theorem dX12_needed_72 : decode cX12_needed 72 = .ok (.invokestatic 199, 3) := by decide +kernel
theorem dX12_needed_75 : decode cX12_needed 75 = .ok (.aload_n 0, 1) := by decide +kernel
theorem dX12_needed_76 : decode cX12_needed 76 = .ok (.getfield 13, 3) := by decide +kernel
theorem dX12_needed_79 : decode cX12_needed 79 = .ok (.bipush 10, 2) := by decide +kernel
theorem dX12_needed_81 : decode cX12_needed 81 = .ok (.dup2, 1) := by decide +kernel
theorem dX12_needed_82 : decode cX12_needed 82 = .ok (.iaload, 1) := by decide +kernel
theorem dX12_needed_83 : decode cX12_needed 83 = .ok (.iconst 1, 1) := by decide +kernel
theorem dX12_needed_84 : decode cX12_needed 84 = .ok (.iload 4, 2) := by decide +kernel
theorem dX12_needed_86 : decode cX12_needed 86 = .ok (.ishl, 1) := by decide +kernel
theorem dX12_needed_87 : decode cX12_needed 87 = .ok (.iconst (-1), 1) := by decide +kernel
theorem dX12_needed_88 : decode cX12_needed 88 = .ok (.ixor, 1) := by decide +kernel
theorem dX12_needed_89 : decode cX12_needed 89 = .ok (.iand, 1) := by decide +kernel
theorem dX12_needed_90 : decode cX12_needed 90 = .ok (.iastore, 1) := by decide +kernel
theorem dX12_needed_91 : decode cX12_needed 91 = .ok (.aload_n 0, 1) := by decide +kernel
theorem dX12_needed_92 : decode cX12_needed 92 = .ok (.iload_n 1, 1) := by decide +kernel
theorem dX12_needed_93 : decode cX12_needed 93 = .ok (.invokevirtual 203, 3) := by decide +kernel
theorem dX12_needed_96 : decode cX12_needed 96 = .ok (.aload_n 0, 1) := by decide +kernel
theorem dX12_needed_97 : decode cX12_needed 97 = .ok (.aload_n 0, 1) := by decide +kernel
theorem dX12_needed_98 : decode cX12_needed 98 = .ok (.getfield 13, 3) := by decide +kernel
theorem dX12_needed_101 : decode cX12_needed 101 = .ok (.invokevirtual 194, 3) := by decide +kernel
theorem dX12_needed_104 : decode cX12_needed 104 = .ok (.iload_n 3, 1) := by decide +kernel
theorem dX12_needed_105 : decode cX12_needed 105 = .ok (.aload_n 0, 1) := by decide +kernel
theorem dX12_needed_106 : decode cX12_needed 106 = .ok (.getfield 191, 3) := by decide +kernel
theorem dX12_needed_109 : decode cX12_needed 109 = .ok (.iload_n 2, 1) := by decide +kernel
theorem dX12_needed_110 : decode cX12_needed 110 = .ok (.if_icmp .ge 10, 3) := by decide +kernel
theorem dX12_needed_113 : decode cX12_needed 113 = .ok (.iconst 1, 1) := by decide +kernel
theorem dX12_needed_114 : decode cX12_needed 114 = .ok (.iload 4, 2) := by decide +kernel
theorem dX12_needed_116 : decode cX12_needed 116 = .ok (.ishl, 1) := by decide +kernel
theorem dX12_needed_117 : decode cX12_needed 117 = .ok (.goto 4, 3) := by decide +kernel
theorem dX12_needed_120 : decode cX12_needed 120 = .ok (.iconst 0, 1) := by decide +kernel
theorem dX12_needed_121 : decode cX12_needed 121 = .ok (.ior, 1) := by decide +kernel
theorem dX12_needed_122 : decode cX12_needed 122 = .ok (.istore_n 3, 1) := by decide +kernel
theorem dX12_needed_123 : decode cX12_needed 123 = .ok (.iinc 4 1, 3) := by decide +kernel
theorem dX12_needed_126 : decode cX12_needed 126 = .ok (.goto (-90), 3) := by decide +kernel
theorem dX12_needed_129 : decode cX12_needed 129 = .ok (.iload_n 3, 1) := by decide +kernel
theorem dX12_needed_130 : decode cX12_needed 130 = .ok (.ireturn, 1) := by decide +kernel
theorem dX12_little_0 : decode cX12_little 0 = .ok (.iload_n 1, 1) := by decide +kernel
theorem dX12_little_1 : decode cX12_little 1 = .ok (.invokestatic 207, 3) := by decide +kernel
theorem dX12_little_4 : decode cX12_little 4 = .ok (.ifCond .eq 15, 3) := by decide +kernel
theorem dX12_little_7 : decode cX12_little 7 = .ok (.iload_n 2, 1) := by decide +kernel
theorem dX12_little_8 : decode cX12_little 8 = .ok (.i2l, 1) := by decide +kernel
theorem dX12_little_9 : decode cX12_little 9 = .ok (.lconst 0, 1) := by decide +kernel
theorem dX12_little_10 : decode cX12_little 10 = .ok (.ldc2_w 218, 3) := by decide +kernel
theorem dX12_little_13 : decode cX12_little 13 = .ok (.invokestatic 51, 3) := by decide +kernel
theorem dX12_little_16 : decode cX12_little 16 = .ok (.ifCond .ne 9, 3) := by decide +kernel
theorem dX12_little_19 : decode cX12_little 19 = .ok (.aload_n 0, 1) := by decide +kernel
theorem dX12_little_20 : decode cX12_little 20 = .ok (.iconst 1, 1) := by decide +kernel
theorem dX12_little_21 : decode cX12_little 21 = .ok (.invokevirtual 61, 3) := by decide +kernel
theorem dX12_little_24 : decode cX12_little 24 = .ok (.ireturn, 1) := by decide +kernel
theorem dX12_little_25 : decode cX12_little 25 = .ok (.iconst 0, 1) := by decide +kernel
theorem dX12_little_26 : decode cX12_little 26 = .ok (.istore_n 3, 1) := by decide +kernel
theorem dX12_little_27 : decode cX12_little 27 = .ok (.iload_n 3, 1) := by decide +kernel
theorem dX12_little_28 : decode cX12_little 28 = .ok (.bipush 100, 2) := by decide +kernel
theorem dX12_little_30 : decode cX12_little 30 = .ok (.if_icmp .ge 50, 3) := by decide +kernel
theorem dX12_little_33 : decode cX12_little 33 = .ok (.aload_n 0, 1) := by decide +kernel
theorem dX12_little_34 : decode cX12_little 34 = .ok (.getfield 7, 3) := by decide +kernel
theorem dX12_little_37 : decode cX12_little 37 = .ok (.aload_n 0, 1) := by decide +kernel
theorem dX12_little_38 : decode cX12_little 38 = .ok (.getfield 13, 3) := by decide +kernel
theorem dX12_little_41 : decode cX12_little 41 = .ok (.invokestatic 199, 3) := by decide +kernel
theorem dX12_little_44 : decode cX12_little 44 = .ok (.aload_n 0, 1) := by decide +kernel
theorem dX12_little_45 : decode cX12_little 45 = .ok (.getfield 13, 3) := by decide +kernel
theorem dX12_little_48 : decode cX12_little 48 = .ok (.iconst 5, 1) := by decide +kernel
theorem dX12_little_49 : decode cX12_little 49 = .ok (.iload_n 3, 1) := by decide +kernel
theorem dX12_little_50 : decode cX12_little 50 = .ok (.iastore, 1) := by decide +kernel
theorem dX12_little_51 : decode cX12_little 51 = .ok (.aload_n 0, 1) := by decide +kernel
theorem dX12_little_52 : decode cX12_little 52 = .ok (.iload_n 1, 1) := by decide +kernel
theorem dX12_little_53 : decode cX12_little 53 = .ok (.invokevirtual 203, 3) := by decide +kernel
theorem dX12_little_56 : decode cX12_little 56 = .ok (.aload_n 0, 1) := by decide +kernel
theorem dX12_little_57 : decode cX12_little 57 = .ok (.aload_n 0, 1) := by decide +kernel
theorem dX12_little_58 : decode cX12_little 58 = .ok (.getfield 13, 3) := by decide +kernel
theorem dX12_little_61 : decode cX12_little 61 = .ok (.invokevirtual 194, 3) := by decide +kernel
theorem dX12_little_64 : decode cX12_little 64 = .ok (.aload_n 0, 1) := by decide +kernel
theorem dX12_little_65 : decode cX12_little 65 = .ok (.getfield 191, 3) := by decide +kernel
theorem dX12_little_68 : decode cX12_little 68 = .ok (.iload_n 2, 1) := by decide +kernel
theorem dX12_little_69 : decode cX12_little 69 = .ok (.if_icmp .lt 5, 3) := by decide +kernel
theorem dX12_little_72 : decode cX12_little 72 = .ok (.iload_n 3, 1) := by decide +kernel
theorem dX12_little_73 : decode cX12_little 73 = .ok (.ireturn, 1) := by decide +kernel
theorem dX12_little_74 : decode cX12_little 74 = .ok (.iinc 3 1, 3) := by decide +kernel
theorem dX12_little_77 : decode cX12_little 77 = .ok (.goto (-50), 3) := by decide +kernel
theorem dX12_little_80 : decode cX12_little 80 = .ok (.aload_n 0, 1) := by decide +kernel
theorem dX12_little_81 : decode cX12_little 81 = .ok (.iconst 2, 1) := by decide +kernel
theorem dX12_little_82 : decode cX12_little 82 = .ok (.invokevirtual 61, 3) := by decide +kernel
theorem dX12_little_85 : decode cX12_little 85 = .ok (.ireturn, 1) := by decide +kernel
theorem dX12_breaksIn_0 : decode cX12_breaksIn 0 = .ok (.iconst 0, 1) := by decide +kernel
theorem dX12_breaksIn_1 : decode cX12_breaksIn 1 = .ok (.istore_n 2, 1) := by decide +kernel
theorem dX12_breaksIn_2 : decode cX12_breaksIn 2 = .ok (.iload_n 2, 1) := by decide +kernel
theorem dX12_breaksIn_3 : decode cX12_breaksIn 3 = .ok (.iload_n 1, 1) := by decide +kernel
theorem dX12_breaksIn_4 : decode cX12_breaksIn 4 = .ok (.if_icmp .gt 36, 3) := by decide +kernel
theorem dX12_breaksIn_7 : decode cX12_breaksIn 7 = .ok (.aload_n 0, 1) := by decide +kernel
theorem dX12_breaksIn_8 : decode cX12_breaksIn 8 = .ok (.getfield 13, 3) := by decide +kernel
theorem dX12_breaksIn_11 : decode cX12_breaksIn 11 = .ok (.invokestatic 188, 3) := by decide +kernel
theorem dX12_breaksIn_14 : decode cX12_breaksIn 14 = .ok (.aload_n 0, 1) := by decide +kernel
theorem dX12_breaksIn_15 : decode cX12_breaksIn 15 = .ok (.getfield 13, 3) := by decide +kernel
theorem dX12_breaksIn_18 : decode cX12_breaksIn 18 = .ok (.bipush 9, 2) := by decide +kernel
theorem dX12_breaksIn_20 : decode cX12_breaksIn 20 = .ok (.iaload, 1) := by decide +kernel
theorem dX12_breaksIn_21 : decode cX12_breaksIn 21 = .ok (.if_icmp .le 5, 3) := by decide +kernel
theorem dX12_breaksIn_24 : decode cX12_breaksIn 24 = .ok (.iload_n 2, 1) := by decide +kernel
theorem dX12_breaksIn_25 : decode cX12_breaksIn 25 = .ok (.ireturn, 1) := by decide +kernel
theorem dX12_breaksIn_26 : decode cX12_breaksIn 26 = .ok (.aload_n 0, 1) := by decide +kernel
theorem dX12_breaksIn_27 : decode cX12_breaksIn 27 = .ok (.aload_n 0, 1) := by decide +kernel
theorem dX12_breaksIn_28 : decode cX12_breaksIn 28 = .ok (.getfield 13, 3) := by decide +kernel
theorem dX12_breaksIn_31 : decode cX12_breaksIn 31 = .ok (.invokevirtual 180, 3) := by decide +kernel
theorem dX12_breaksIn_34 : decode cX12_breaksIn 34 = .ok (.iinc 2 1, 3) := by decide +kernel
theorem dX12_breaksIn_37 : decode cX12_breaksIn 37 = .ok (.goto (-35), 3) := by decide +kernel
theorem dX12_breaksIn_40 : decode cX12_breaksIn 40 = .ok (.iconst (-1), 1) := by decide +kernel
theorem dX12_breaksIn_41 : decode cX12_breaksIn 41 = .ok (.ireturn, 1) := by decide +kernel
theorem dX12_breaks_0 : decode cX12_breaks 0 = .ok (.iload_n 1, 1) := by decide +kernel
theorem dX12_breaks_1 : decode cX12_breaks 1 = .ok (.invokestatic 207, 3) := by decide +kernel
theorem dX12_breaks_4 : decode cX12_breaks 4 = .ok (.ifCond .ne 9, 3) := by decide +kernel
theorem dX12_breaks_7 : decode cX12_breaks 7 = .ok (.aload_n 0, 1) := by decide +kernel
theorem dX12_breaks_8 : decode cX12_breaks 8 = .ok (.iconst 1, 1) := by decide +kernel
theorem dX12_breaks_9 : decode cX12_breaks 9 = .ok (.invokevirtual 61, 3) := by decide +kernel
theorem dX12_breaks_12 : decode cX12_breaks 12 = .ok (.ireturn, 1) := by decide +kernel
theorem dX12_breaks_13 : decode cX12_breaks 13 = .ok (.aload_n 0, 1) := by decide +kernel
theorem dX12_breaks_14 : decode cX12_breaks 14 = .ok (.getfield 7, 3) := by decide +kernel
theorem dX12_breaks_17 : decode cX12_breaks 17 = .ok (.aload_n 0, 1) := by decide +kernel
theorem dX12_breaks_18 : decode cX12_breaks 18 = .ok (.getfield 13, 3) := by decide +kernel
theorem dX12_breaks_21 : decode cX12_breaks 21 = .ok (.invokestatic 199, 3) := by decide +kernel
theorem dX12_breaks_24 : decode cX12_breaks 24 = .ok (.aload_n 0, 1) := by decide +kernel
theorem dX12_breaks_25 : decode cX12_breaks 25 = .ok (.iload_n 1, 1) := by decide +kernel
theorem dX12_breaks_26 : decode cX12_breaks 26 = .ok (.invokevirtual 220, 3) := by decide +kernel
theorem dX12_breaks_29 : decode cX12_breaks 29 = .ok (.istore_n 2, 1) := by decide +kernel
theorem dX12_breaks_30 : decode cX12_breaks 30 = .ok (.iload_n 2, 1) := by decide +kernel
theorem dX12_breaks_31 : decode cX12_breaks 31 = .ok (.ifCond .ge 11, 3) := by decide +kernel
theorem dX12_breaks_34 : decode cX12_breaks 34 = .ok (.aload_n 0, 1) := by decide +kernel
theorem dX12_breaks_35 : decode cX12_breaks 35 = .ok (.iconst 2, 1) := by decide +kernel
theorem dX12_breaks_36 : decode cX12_breaks 36 = .ok (.invokevirtual 61, 3) := by decide +kernel
theorem dX12_breaks_39 : decode cX12_breaks 39 = .ok (.goto 4, 3) := by decide +kernel
theorem dX12_breaks_42 : decode cX12_breaks 42 = .ok (.iload_n 2, 1) := by decide +kernel
theorem dX12_breaks_43 : decode cX12_breaks 43 = .ok (.ireturn, 1) := by decide +kernel
theorem dX12_falls_0 : decode cX12_falls 0 = .ok (.iload_n 1, 1) := by decide +kernel
theorem dX12_falls_1 : decode cX12_falls 1 = .ok (.invokestatic 207, 3) := by decide +kernel
theorem dX12_falls_4 : decode cX12_falls 4 = .ok (.ifCond .ne 9, 3) := by decide +kernel
theorem dX12_falls_7 : decode cX12_falls 7 = .ok (.aload_n 0, 1) := by decide +kernel
theorem dX12_falls_8 : decode cX12_falls 8 = .ok (.iconst 1, 1) := by decide +kernel
theorem dX12_falls_9 : decode cX12_falls 9 = .ok (.invokevirtual 61, 3) := by decide +kernel
theorem dX12_falls_12 : decode cX12_falls 12 = .ok (.ireturn, 1) := by decide +kernel
theorem dX12_falls_13 : decode cX12_falls 13 = .ok (.bipush 99, 2) := by decide +kernel
theorem dX12_falls_15 : decode cX12_falls 15 = .ok (.istore_n 2, 1) := by decide +kernel
theorem dX12_falls_16 : decode cX12_falls 16 = .ok (.iload_n 2, 1) := by decide +kernel
theorem dX12_falls_17 : decode cX12_falls 17 = .ok (.bipush (-50), 2) := by decide +kernel
theorem dX12_falls_19 : decode cX12_falls 19 = .ok (.if_icmp .lt 38, 3) := by decide +kernel
theorem dX12_falls_22 : decode cX12_falls 22 = .ok (.aload_n 0, 1) := by decide +kernel
theorem dX12_falls_23 : decode cX12_falls 23 = .ok (.getfield 7, 3) := by decide +kernel
theorem dX12_falls_26 : decode cX12_falls 26 = .ok (.aload_n 0, 1) := by decide +kernel
theorem dX12_falls_27 : decode cX12_falls 27 = .ok (.getfield 13, 3) := by decide +kernel
theorem dX12_falls_30 : decode cX12_falls 30 = .ok (.invokestatic 199, 3) := by decide +kernel
theorem dX12_falls_33 : decode cX12_falls 33 = .ok (.aload_n 0, 1) := by decide +kernel
theorem dX12_falls_34 : decode cX12_falls 34 = .ok (.getfield 13, 3) := by decide +kernel
theorem dX12_falls_37 : decode cX12_falls 37 = .ok (.bipush 6, 2) := by decide +kernel
theorem dX12_falls_39 : decode cX12_falls 39 = .ok (.iload_n 2, 1) := by decide +kernel
theorem dX12_falls_40 : decode cX12_falls 40 = .ok (.iastore, 1) := by decide +kernel
theorem dX12_falls_41 : decode cX12_falls 41 = .ok (.aload_n 0, 1) := by decide +kernel
theorem dX12_falls_42 : decode cX12_falls 42 = .ok (.iload_n 1, 1) := by decide +kernel
theorem dX12_falls_43 : decode cX12_falls 43 = .ok (.invokevirtual 220, 3) := by decide +kernel
theorem dX12_falls_46 : decode cX12_falls 46 = .ok (.ifCond .ge 5, 3) := by decide +kernel
theorem dX12_falls_49 : decode cX12_falls 49 = .ok (.iload_n 2, 1) := by decide +kernel
theorem dX12_falls_50 : decode cX12_falls 50 = .ok (.ireturn, 1) := by decide +kernel
theorem dX12_falls_51 : decode cX12_falls 51 = .ok (.iinc 2 (-1), 3) := by decide +kernel
theorem dX12_falls_54 : decode cX12_falls 54 = .ok (.goto (-38), 3) := by decide +kernel
theorem dX12_falls_57 : decode cX12_falls 57 = .ok (.aload_n 0, 1) := by decide +kernel
theorem dX12_falls_58 : decode cX12_falls 58 = .ok (.iconst 2, 1) := by decide +kernel
theorem dX12_falls_59 : decode cX12_falls 59 = .ok (.invokevirtual 61, 3) := by decide +kernel
theorem dX12_falls_62 : decode cX12_falls 62 = .ok (.ireturn, 1) := by decide +kernel
theorem dX12_offBy_0 : decode cX12_offBy 0 = .ok (.iconst 0, 1) := by decide +kernel
theorem dX12_offBy_1 : decode cX12_offBy 1 = .ok (.istore_n 3, 1) := by decide +kernel
theorem dX12_offBy_2 : decode cX12_offBy 2 = .ok (.iconst 0, 1) := by decide +kernel
theorem dX12_offBy_3 : decode cX12_offBy 3 = .ok (.istore 4, 2) := by decide +kernel
theorem dX12_offBy_5 : decode cX12_offBy 5 = .ok (.iload 4, 2) := by decide +kernel
theorem dX12_offBy_7 : decode cX12_offBy 7 = .ok (.bipush 40, 2) := by decide +kernel
theorem dX12_offBy_9 : decode cX12_offBy 9 = .ok (.if_icmp .ge 104, 3) := by decide +kernel
theorem dX12_offBy_12 : decode cX12_offBy 12 = .ok (.iload 4, 2) := by decide +kernel
theorem dX12_offBy_14 : decode cX12_offBy 14 = .ok (.aload_n 1, 1) := by decide +kernel
theorem dX12_offBy_15 : decode cX12_offBy 15 = .ok (.iconst 1, 1) := by decide +kernel
theorem dX12_offBy_16 : decode cX12_offBy 16 = .ok (.iaload, 1) := by decide +kernel
theorem dX12_offBy_17 : decode cX12_offBy 17 = .ok (.if_icmp .ge 14, 3) := by decide +kernel
theorem dX12_offBy_20 : decode cX12_offBy 20 = .ok (.aload_n 1, 1) := by decide +kernel
theorem dX12_offBy_21 : decode cX12_offBy 21 = .ok (.bipush 100, 2) := by decide +kernel
theorem dX12_offBy_23 : decode cX12_offBy 23 = .ok (.iload 4, 2) := by decide +kernel
theorem dX12_offBy_25 : decode cX12_offBy 25 = .ok (.iadd, 1) := by decide +kernel
theorem dX12_offBy_26 : decode cX12_offBy 26 = .ok (.iaload, 1) := by decide +kernel
theorem dX12_offBy_27 : decode cX12_offBy 27 = .ok (.i2l, 1) := by decide +kernel
theorem dX12_offBy_28 : decode cX12_offBy 28 = .ok (.goto 4, 3) := by decide +kernel
theorem dX12_offBy_31 : decode cX12_offBy 31 = .ok (.lconst 0, 1) := by decide +kernel
theorem dX12_offBy_32 : decode cX12_offBy 32 = .ok (.lstore 5, 2) := by decide +kernel
theorem dX12_offBy_34 : decode cX12_offBy 34 = .ok (.iload 4, 2) := by decide +kernel
theorem dX12_offBy_36 : decode cX12_offBy 36 = .ok (.aload_n 0, 1) := by decide +kernel
theorem dX12_offBy_37 : decode cX12_offBy 37 = .ok (.getfield 40, 3) := by decide +kernel
theorem dX12_offBy_40 : decode cX12_offBy 40 = .ok (.iload_n 2, 1) := by decide +kernel
theorem dX12_offBy_41 : decode cX12_offBy 41 = .ok (.iaload, 1) := by decide +kernel
theorem dX12_offBy_42 : decode cX12_offBy 42 = .ok (.if_icmp .ge 19, 3) := by decide +kernel
theorem dX12_offBy_45 : decode cX12_offBy 45 = .ok (.aload_n 0, 1) := by decide +kernel
theorem dX12_offBy_46 : decode cX12_offBy 46 = .ok (.getfield 43, 3) := by decide +kernel
theorem dX12_offBy_49 : decode cX12_offBy 49 = .ok (.bipush 40, 2) := by decide +kernel
theorem dX12_offBy_51 : decode cX12_offBy 51 = .ok (.iload_n 2, 1) := by decide +kernel
theorem dX12_offBy_52 : decode cX12_offBy 52 = .ok (.imul, 1) := by decide +kernel
theorem dX12_offBy_53 : decode cX12_offBy 53 = .ok (.iload 4, 2) := by decide +kernel
theorem dX12_offBy_55 : decode cX12_offBy 55 = .ok (.iadd, 1) := by decide +kernel
theorem dX12_offBy_56 : decode cX12_offBy 56 = .ok (.iaload, 1) := by decide +kernel
theorem dX12_offBy_57 : decode cX12_offBy 57 = .ok (.i2l, 1) := by decide +kernel
theorem dX12_offBy_58 : decode cX12_offBy 58 = .ok (.goto 4, 3) := by decide +kernel
theorem dX12_offBy_61 : decode cX12_offBy 61 = .ok (.lconst 0, 1) := by decide +kernel
theorem dX12_offBy_62 : decode cX12_offBy 62 = .ok (.lstore 7, 2) := by decide +kernel
theorem dX12_offBy_64 : decode cX12_offBy 64 = .ok (.lload 5, 2) := by decide +kernel
theorem dX12_offBy_66 : decode cX12_offBy 66 = .ok (.lload 7, 2) := by decide +kernel
theorem dX12_offBy_68 : decode cX12_offBy 68 = .ok (.lcmp, 1) := by decide +kernel
theorem dX12_offBy_69 : decode cX12_offBy 69 = .ok (.ifCond .le 11, 3) := by decide +kernel
theorem dX12_offBy_72 : decode cX12_offBy 72 = .ok (.lload 5, 2) := by decide +kernel
theorem dX12_offBy_74 : decode cX12_offBy 74 = .ok (.lload 7, 2) := by decide +kernel
theorem dX12_offBy_76 : decode cX12_offBy 76 = .ok (.lsub, 1) := by decide +kernel
theorem dX12_offBy_77 : decode cX12_offBy 77 = .ok (.goto 8, 3) := by decide +kernel
theorem dX12_offBy_80 : decode cX12_offBy 80 = .ok (.lload 7, 2) := by decide +kernel
theorem dX12_offBy_82 : decode cX12_offBy 82 = .ok (.lload 5, 2) := by decide +kernel
theorem dX12_offBy_84 : decode cX12_offBy 84 = .ok (.lsub, 1) := by decide +kernel
theorem dX12_offBy_85 : decode cX12_offBy 85 = .ok (.lstore 9, 2) := by decide +kernel
theorem dX12_offBy_87 : decode cX12_offBy 87 = .ok (.iload_n 3, 1) := by decide +kernel
theorem dX12_offBy_88 : decode cX12_offBy 88 = .ok (.lload 9, 2) := by decide +kernel
theorem dX12_offBy_90 : decode cX12_offBy 90 = .ok (.ldc2_w 223, 3) := by decide +kernel
theorem dX12_offBy_93 : decode cX12_offBy 93 = .ok (.lcmp, 1) := by decide +kernel
theorem dX12_offBy_94 : decode cX12_offBy 94 = .ok (.ifCond .le 8, 3) := by decide +kernel
theorem dX12_offBy_97 : decode cX12_offBy 97 = .ok (.ldc 225, 2) := by decide +kernel
theorem dX12_offBy_99 : decode cX12_offBy 99 = .ok (.goto 6, 3) := by decide +kernel
theorem dX12_offBy_102 : decode cX12_offBy 102 = .ok (.lload 9, 2) := by decide +kernel
theorem dX12_offBy_104 : decode cX12_offBy 104 = .ok (.l2i, 1) := by decide +kernel
theorem dX12_offBy_105 : decode cX12_offBy 105 = .ok (.iadd, 1) := by decide +kernel
theorem dX12_offBy_106 : decode cX12_offBy 106 = .ok (.istore_n 3, 1) := by decide +kernel
theorem dX12_offBy_107 : decode cX12_offBy 107 = .ok (.iinc 4 1, 3) := by decide +kernel
theorem dX12_offBy_110 : decode cX12_offBy 110 = .ok (.goto (-105), 3) := by decide +kernel
theorem dX12_offBy_113 : decode cX12_offBy 113 = .ok (.iload_n 3, 1) := by decide +kernel
theorem dX12_offBy_114 : decode cX12_offBy 114 = .ok (.ireturn, 1) := by decide +kernel
theorem dX12_off_0 : decode cX12_off 0 = .ok (.iload_n 1, 1) := by decide +kernel
theorem dX12_off_1 : decode cX12_off 1 = .ok (.invokestatic 73, 3) := by decide +kernel
theorem dX12_off_4 : decode cX12_off 4 = .ok (.ifCond .ne 9, 3) := by decide +kernel
theorem dX12_off_7 : decode cX12_off 7 = .ok (.aload_n 0, 1) := by decide +kernel
theorem dX12_off_8 : decode cX12_off 8 = .ok (.iconst 1, 1) := by decide +kernel
theorem dX12_off_9 : decode cX12_off 9 = .ok (.invokevirtual 61, 3) := by decide +kernel
theorem dX12_off_12 : decode cX12_off 12 = .ok (.ireturn, 1) := by decide +kernel
theorem dX12_off_13 : decode cX12_off 13 = .ok (.aload_n 0, 1) := by decide +kernel
theorem dX12_off_14 : decode cX12_off 14 = .ok (.getfield 37, 3) := by decide +kernel
theorem dX12_off_17 : decode cX12_off 17 = .ok (.iload_n 1, 1) := by decide +kernel
theorem dX12_off_18 : decode cX12_off 18 = .ok (.iaload, 1) := by decide +kernel
theorem dX12_off_19 : decode cX12_off 19 = .ok (.ifCond .ne 11, 3) := by decide +kernel
theorem dX12_off_22 : decode cX12_off 22 = .ok (.aload_n 0, 1) := by decide +kernel
theorem dX12_off_23 : decode cX12_off 23 = .ok (.iconst 2, 1) := by decide +kernel
theorem dX12_off_24 : decode cX12_off 24 = .ok (.invokevirtual 61, 3) := by decide +kernel
theorem dX12_off_27 : decode cX12_off 27 = .ok (.goto 12, 3) := by decide +kernel
theorem dX12_off_30 : decode cX12_off 30 = .ok (.aload_n 0, 1) := by decide +kernel
theorem dX12_off_31 : decode cX12_off 31 = .ok (.aload_n 0, 1) := by decide +kernel
theorem dX12_off_32 : decode cX12_off 32 = .ok (.getfield 7, 3) := by decide +kernel
theorem dX12_off_35 : decode cX12_off 35 = .ok (.iload_n 1, 1) := by decide +kernel
theorem dX12_off_36 : decode cX12_off 36 = .ok (.invokevirtual 226, 3) := by decide +kernel
theorem dX12_off_39 : decode cX12_off 39 = .ok (.ireturn, 1) := by decide +kernel
theorem dX12_begins_0 : decode cX12_begins 0 = .ok (.aload_n 0, 1) := by decide +kernel
theorem dX12_begins_1 : decode cX12_begins 1 = .ok (.getfield 7, 3) := by decide +kernel
theorem dX12_begins_4 : decode cX12_begins 4 = .ok (.aload_n 0, 1) := by decide +kernel
theorem dX12_begins_5 : decode cX12_begins 5 = .ok (.getfield 13, 3) := by decide +kernel
theorem dX12_begins_8 : decode cX12_begins 8 = .ok (.invokestatic 199, 3) := by decide +kernel
theorem dX12_begins_11 : decode cX12_begins 11 = .ok (.aload_n 0, 1) := by decide +kernel
theorem dX12_begins_12 : decode cX12_begins 12 = .ok (.getfield 13, 3) := by decide +kernel
theorem dX12_begins_15 : decode cX12_begins 15 = .ok (.iconst 0, 1) := by decide +kernel
theorem dX12_begins_16 : decode cX12_begins 16 = .ok (.iconst 0, 1) := by decide +kernel
theorem dX12_begins_17 : decode cX12_begins 17 = .ok (.iastore, 1) := by decide +kernel
theorem dX12_begins_18 : decode cX12_begins 18 = .ok (.aload_n 0, 1) := by decide +kernel
theorem dX12_begins_19 : decode cX12_begins 19 = .ok (.getfield 13, 3) := by decide +kernel
theorem dX12_begins_22 : decode cX12_begins 22 = .ok (.iconst 1, 1) := by decide +kernel
theorem dX12_begins_23 : decode cX12_begins 23 = .ok (.iconst 1, 1) := by decide +kernel
theorem dX12_begins_24 : decode cX12_begins 24 = .ok (.iastore, 1) := by decide +kernel
theorem dX12_begins_25 : decode cX12_begins 25 = .ok (.aload_n 0, 1) := by decide +kernel
theorem dX12_begins_26 : decode cX12_begins 26 = .ok (.getfield 13, 3) := by decide +kernel
theorem dX12_begins_29 : decode cX12_begins 29 = .ok (.bipush 100, 2) := by decide +kernel
theorem dX12_begins_31 : decode cX12_begins 31 = .ok (.bipush 10, 2) := by decide +kernel
theorem dX12_begins_33 : decode cX12_begins 33 = .ok (.iastore, 1) := by decide +kernel
theorem dX12_begins_34 : decode cX12_begins 34 = .ok (.aload_n 0, 1) := by decide +kernel
theorem dX12_begins_35 : decode cX12_begins 35 = .ok (.getfield 13, 3) := by decide +kernel
theorem dX12_begins_38 : decode cX12_begins 38 = .ok (.sipush 140, 3) := by decide +kernel
theorem dX12_begins_41 : decode cX12_begins 41 = .ok (.iconst 0, 1) := by decide +kernel
theorem dX12_begins_42 : decode cX12_begins 42 = .ok (.iastore, 1) := by decide +kernel
theorem dX12_begins_43 : decode cX12_begins 43 = .ok (.return_, 1) := by decide +kernel
theorem dX12_made_0 : decode cX12_made 0 = .ok (.iload_n 1, 1) := by decide +kernel
theorem dX12_made_1 : decode cX12_made 1 = .ok (.invokestatic 73, 3) := by decide +kernel
theorem dX12_made_4 : decode cX12_made 4 = .ok (.ifCond .eq 20, 3) := by decide +kernel
theorem dX12_made_7 : decode cX12_made 7 = .ok (.iload_n 2, 1) := by decide +kernel
theorem dX12_made_8 : decode cX12_made 8 = .ok (.invokestatic 207, 3) := by decide +kernel
theorem dX12_made_11 : decode cX12_made 11 = .ok (.ifCond .eq 13, 3) := by decide +kernel
theorem dX12_made_14 : decode cX12_made 14 = .ok (.iload_n 3, 1) := by decide +kernel
theorem dX12_made_15 : decode cX12_made 15 = .ok (.i2l, 1) := by decide +kernel
theorem dX12_made_16 : decode cX12_made 16 = .ok (.lconst 0, 1) := by decide +kernel
theorem dX12_made_17 : decode cX12_made 17 = .ok (.lconst 1, 1) := by decide +kernel
theorem dX12_made_18 : decode cX12_made 18 = .ok (.invokestatic 51, 3) := by decide +kernel
theorem dX12_made_21 : decode cX12_made 21 = .ok (.ifCond .ne 9, 3) := by decide +kernel
theorem dX12_made_24 : decode cX12_made 24 = .ok (.aload_n 0, 1) := by decide +kernel
theorem dX12_made_25 : decode cX12_made 25 = .ok (.iconst 1, 1) := by decide +kernel
theorem dX12_made_26 : decode cX12_made 26 = .ok (.invokevirtual 61, 3) := by decide +kernel
theorem dX12_made_29 : decode cX12_made 29 = .ok (.ireturn, 1) := by decide +kernel
theorem dX12_made_30 : decode cX12_made 30 = .ok (.aload_n 0, 1) := by decide +kernel
theorem dX12_made_31 : decode cX12_made 31 = .ok (.getfield 37, 3) := by decide +kernel
theorem dX12_made_34 : decode cX12_made 34 = .ok (.iload_n 1, 1) := by decide +kernel
theorem dX12_made_35 : decode cX12_made 35 = .ok (.iaload, 1) := by decide +kernel
theorem dX12_made_36 : decode cX12_made 36 = .ok (.ifCond .ne 9, 3) := by decide +kernel
theorem dX12_made_39 : decode cX12_made 39 = .ok (.aload_n 0, 1) := by decide +kernel
theorem dX12_made_40 : decode cX12_made 40 = .ok (.iconst 2, 1) := by decide +kernel
theorem dX12_made_41 : decode cX12_made 41 = .ok (.invokevirtual 61, 3) := by decide +kernel
theorem dX12_made_44 : decode cX12_made 44 = .ok (.ireturn, 1) := by decide +kernel
theorem dX12_made_45 : decode cX12_made 45 = .ok (.iconst (-1), 1) := by decide +kernel
theorem dX12_made_46 : decode cX12_made 46 = .ok (.istore 4, 2) := by decide +kernel
theorem dX12_made_48 : decode cX12_made 48 = .ok (.iconst 0, 1) := by decide +kernel
theorem dX12_made_49 : decode cX12_made 49 = .ok (.istore 5, 2) := by decide +kernel
theorem dX12_made_51 : decode cX12_made 51 = .ok (.iconst 0, 1) := by decide +kernel
theorem dX12_made_52 : decode cX12_made 52 = .ok (.istore 6, 2) := by decide +kernel
theorem dX12_made_54 : decode cX12_made 54 = .ok (.iload 6, 2) := by decide +kernel
theorem dX12_made_56 : decode cX12_made 56 = .ok (.iconst 1, 1) := by decide +kernel
theorem dX12_made_57 : decode cX12_made 57 = .ok (.aload_n 0, 1) := by decide +kernel
theorem dX12_made_58 : decode cX12_made 58 = .ok (.getfield 7, 3) := by decide +kernel
theorem dX12_made_61 : decode cX12_made 61 = .ok (.bipush 11, 2) := by decide +kernel
theorem dX12_made_63 : decode cX12_made 63 = .ok (.iaload, 1) := by decide +kernel
theorem dX12_made_64 : decode cX12_made 64 = .ok (.ishl, 1) := by decide +kernel
theorem dX12_made_65 : decode cX12_made 65 = .ok (.if_icmp .ge 58, 3) := by decide +kernel
theorem dX12_made_68 : decode cX12_made 68 = .ok (.aload_n 0, 1) := by decide +kernel
theorem dX12_made_69 : decode cX12_made 69 = .ok (.invokevirtual 229, 3) := by decide +kernel
theorem dX12_made_72 : decode cX12_made 72 = .ok (.aload_n 0, 1) := by decide +kernel
theorem dX12_made_73 : decode cX12_made 73 = .ok (.getfield 13, 3) := by decide +kernel
theorem dX12_made_76 : decode cX12_made 76 = .ok (.bipush 10, 2) := by decide +kernel
theorem dX12_made_78 : decode cX12_made 78 = .ok (.iload 6, 2) := by decide +kernel
theorem dX12_made_80 : decode cX12_made 80 = .ok (.iastore, 1) := by decide +kernel
theorem dX12_made_81 : decode cX12_made 81 = .ok (.aload_n 0, 1) := by decide +kernel
theorem dX12_made_82 : decode cX12_made 82 = .ok (.iload_n 2, 1) := by decide +kernel
theorem dX12_made_83 : decode cX12_made 83 = .ok (.invokevirtual 203, 3) := by decide +kernel
theorem dX12_made_86 : decode cX12_made 86 = .ok (.aload_n 0, 1) := by decide +kernel
theorem dX12_made_87 : decode cX12_made 87 = .ok (.aload_n 0, 1) := by decide +kernel
theorem dX12_made_88 : decode cX12_made 88 = .ok (.getfield 13, 3) := by decide +kernel
theorem dX12_made_91 : decode cX12_made 91 = .ok (.iload_n 1, 1) := by decide +kernel
theorem dX12_made_92 : decode cX12_made 92 = .ok (.invokevirtual 226, 3) := by decide +kernel
theorem dX12_made_95 : decode cX12_made 95 = .ok (.istore 7, 2) := by decide +kernel
theorem dX12_made_97 : decode cX12_made 97 = .ok (.iload 4, 2) := by decide +kernel
theorem dX12_made_99 : decode cX12_made 99 = .ok (.ifCond .lt 10, 3) := by decide +kernel
theorem dX12_made_102 : decode cX12_made 102 = .ok (.iload 7, 2) := by decide +kernel
theorem dX12_made_104 : decode cX12_made 104 = .ok (.iload 5, 2) := by decide +kernel
theorem dX12_made_106 : decode cX12_made 106 = .ok (.if_icmp .ge 11, 3) := by decide +kernel
theorem dX12_made_109 : decode cX12_made 109 = .ok (.iload 6, 2) := by decide +kernel
theorem dX12_made_111 : decode cX12_made 111 = .ok (.istore 4, 2) := by decide +kernel
theorem dX12_made_113 : decode cX12_made 113 = .ok (.iload 7, 2) := by decide +kernel
theorem dX12_made_115 : decode cX12_made 115 = .ok (.istore 5, 2) := by decide +kernel
theorem dX12_made_117 : decode cX12_made 117 = .ok (.iinc 6 1, 3) := by decide +kernel
theorem dX12_made_120 : decode cX12_made 120 = .ok (.goto (-66), 3) := by decide +kernel
theorem dX12_made_123 : decode cX12_made 123 = .ok (.iload_n 3, 1) := by decide +kernel
theorem dX12_made_124 : decode cX12_made 124 = .ok (.ifCond .ne 8, 3) := by decide +kernel
theorem dX12_made_127 : decode cX12_made 127 = .ok (.iload 4, 2) := by decide +kernel
theorem dX12_made_129 : decode cX12_made 129 = .ok (.goto 5, 3) := by decide +kernel
theorem dX12_made_132 : decode cX12_made 132 = .ok (.iload 5, 2) := by decide +kernel
theorem dX12_made_134 : decode cX12_made 134 = .ok (.ireturn, 1) := by decide +kernel
theorem dX12_blown_0 : decode cX12_blown 0 = .ok (.iload_n 1, 1) := by decide +kernel
theorem dX12_blown_1 : decode cX12_blown 1 = .ok (.invokestatic 73, 3) := by decide +kernel
theorem dX12_blown_4 : decode cX12_blown 4 = .ok (.ifCond .eq 10, 3) := by decide +kernel
theorem dX12_blown_7 : decode cX12_blown 7 = .ok (.iload_n 2, 1) := by decide +kernel
theorem dX12_blown_8 : decode cX12_blown 8 = .ok (.invokestatic 207, 3) := by decide +kernel
theorem dX12_blown_11 : decode cX12_blown 11 = .ok (.ifCond .ne 9, 3) := by decide +kernel
theorem dX12_blown_14 : decode cX12_blown 14 = .ok (.aload_n 0, 1) := by decide +kernel
theorem dX12_blown_15 : decode cX12_blown 15 = .ok (.iconst 1, 1) := by decide +kernel
theorem dX12_blown_16 : decode cX12_blown 16 = .ok (.invokevirtual 61, 3) := by decide +kernel
theorem dX12_blown_19 : decode cX12_blown 19 = .ok (.ireturn, 1) := by decide +kernel
theorem dX12_blown_20 : decode cX12_blown 20 = .ok (.aload_n 0, 1) := by decide +kernel
theorem dX12_blown_21 : decode cX12_blown 21 = .ok (.getfield 37, 3) := by decide +kernel
theorem dX12_blown_24 : decode cX12_blown 24 = .ok (.iload_n 1, 1) := by decide +kernel
theorem dX12_blown_25 : decode cX12_blown 25 = .ok (.iaload, 1) := by decide +kernel
theorem dX12_blown_26 : decode cX12_blown 26 = .ok (.ifCond .ne 9, 3) := by decide +kernel
theorem dX12_blown_29 : decode cX12_blown 29 = .ok (.aload_n 0, 1) := by decide +kernel
theorem dX12_blown_30 : decode cX12_blown 30 = .ok (.iconst 2, 1) := by decide +kernel
theorem dX12_blown_31 : decode cX12_blown 31 = .ok (.invokevirtual 61, 3) := by decide +kernel
theorem dX12_blown_34 : decode cX12_blown 34 = .ok (.ireturn, 1) := by decide +kernel
theorem dX12_blown_35 : decode cX12_blown 35 = .ok (.iconst (-1), 1) := by decide +kernel
theorem dX12_blown_36 : decode cX12_blown 36 = .ok (.istore_n 3, 1) := by decide +kernel
theorem dX12_blown_37 : decode cX12_blown 37 = .ok (.iconst 0, 1) := by decide +kernel
theorem dX12_blown_38 : decode cX12_blown 38 = .ok (.istore 4, 2) := by decide +kernel
theorem dX12_blown_40 : decode cX12_blown 40 = .ok (.iconst 0, 1) := by decide +kernel
theorem dX12_blown_41 : decode cX12_blown 41 = .ok (.istore 5, 2) := by decide +kernel
theorem dX12_blown_43 : decode cX12_blown 43 = .ok (.iload 5, 2) := by decide +kernel
theorem dX12_blown_45 : decode cX12_blown 45 = .ok (.bipush 100, 2) := by decide +kernel
theorem dX12_blown_47 : decode cX12_blown 47 = .ok (.if_icmp .ge 56, 3) := by decide +kernel
theorem dX12_blown_50 : decode cX12_blown 50 = .ok (.aload_n 0, 1) := by decide +kernel
theorem dX12_blown_51 : decode cX12_blown 51 = .ok (.invokevirtual 229, 3) := by decide +kernel
theorem dX12_blown_54 : decode cX12_blown 54 = .ok (.aload_n 0, 1) := by decide +kernel
theorem dX12_blown_55 : decode cX12_blown 55 = .ok (.getfield 13, 3) := by decide +kernel
theorem dX12_blown_58 : decode cX12_blown 58 = .ok (.bipush 7, 2) := by decide +kernel
theorem dX12_blown_60 : decode cX12_blown 60 = .ok (.iload 5, 2) := by decide +kernel
theorem dX12_blown_62 : decode cX12_blown 62 = .ok (.iastore, 1) := by decide +kernel
theorem dX12_blown_63 : decode cX12_blown 63 = .ok (.aload_n 0, 1) := by decide +kernel
theorem dX12_blown_64 : decode cX12_blown 64 = .ok (.iload_n 2, 1) := by decide +kernel
theorem dX12_blown_65 : decode cX12_blown 65 = .ok (.invokevirtual 203, 3) := by decide +kernel
theorem dX12_blown_68 : decode cX12_blown 68 = .ok (.aload_n 0, 1) := by decide +kernel
theorem dX12_blown_69 : decode cX12_blown 69 = .ok (.aload_n 0, 1) := by decide +kernel
theorem dX12_blown_70 : decode cX12_blown 70 = .ok (.getfield 13, 3) := by decide +kernel
theorem dX12_blown_73 : decode cX12_blown 73 = .ok (.iload_n 1, 1) := by decide +kernel
theorem dX12_blown_74 : decode cX12_blown 74 = .ok (.invokevirtual 226, 3) := by decide +kernel
theorem dX12_blown_77 : decode cX12_blown 77 = .ok (.istore 6, 2) := by decide +kernel
theorem dX12_blown_79 : decode cX12_blown 79 = .ok (.iload_n 3, 1) := by decide +kernel
theorem dX12_blown_80 : decode cX12_blown 80 = .ok (.ifCond .lt 10, 3) := by decide +kernel
theorem dX12_blown_83 : decode cX12_blown 83 = .ok (.iload 6, 2) := by decide +kernel
theorem dX12_blown_85 : decode cX12_blown 85 = .ok (.iload 4, 2) := by decide +kernel
theorem dX12_blown_87 : decode cX12_blown 87 = .ok (.if_icmp .ge 10, 3) := by decide +kernel
theorem dX12_blown_90 : decode cX12_blown 90 = .ok (.iload 5, 2) := by decide +kernel
theorem dX12_blown_92 : decode cX12_blown 92 = .ok (.istore_n 3, 1) := by decide +kernel
theorem dX12_blown_93 : decode cX12_blown 93 = .ok (.iload 6, 2) := by decide +kernel
theorem dX12_blown_95 : decode cX12_blown 95 = .ok (.istore 4, 2) := by decide +kernel
theorem dX12_blown_97 : decode cX12_blown 97 = .ok (.iinc 5 1, 3) := by decide +kernel
theorem dX12_blown_100 : decode cX12_blown 100 = .ok (.goto (-57), 3) := by decide +kernel
theorem dX12_blown_103 : decode cX12_blown 103 = .ok (.iload_n 3, 1) := by decide +kernel
theorem dX12_blown_104 : decode cX12_blown 104 = .ok (.ireturn, 1) := by decide +kernel
theorem dX12_box_0 : decode cX12_box 0 = .ok (.iconst 2, 1) := by decide +kernel
theorem dX12_box_1 : decode cX12_box 1 = .ok (.iload_n 1, 1) := by decide +kernel
theorem dX12_box_2 : decode cX12_box 2 = .ok (.invokestatic 86, 3) := by decide +kernel
theorem dX12_box_5 : decode cX12_box 5 = .ok (.ifCond .eq 19, 3) := by decide +kernel
theorem dX12_box_8 : decode cX12_box 8 = .ok (.iconst 3, 1) := by decide +kernel
theorem dX12_box_9 : decode cX12_box 9 = .ok (.iload_n 2, 1) := by decide +kernel
theorem dX12_box_10 : decode cX12_box 10 = .ok (.invokestatic 86, 3) := by decide +kernel
theorem dX12_box_13 : decode cX12_box 13 = .ok (.ifCond .eq 11, 3) := by decide +kernel
theorem dX12_box_16 : decode cX12_box 16 = .ok (.iconst 1, 1) := by decide +kernel
theorem dX12_box_17 : decode cX12_box 17 = .ok (.iload_n 3, 1) := by decide +kernel
theorem dX12_box_18 : decode cX12_box 18 = .ok (.invokestatic 86, 3) := by decide +kernel
theorem dX12_box_21 : decode cX12_box 21 = .ok (.ifCond .ne 9, 3) := by decide +kernel
theorem dX12_box_24 : decode cX12_box 24 = .ok (.aload_n 0, 1) := by decide +kernel
theorem dX12_box_25 : decode cX12_box 25 = .ok (.iconst 1, 1) := by decide +kernel
theorem dX12_box_26 : decode cX12_box 26 = .ok (.invokevirtual 61, 3) := by decide +kernel
theorem dX12_box_29 : decode cX12_box 29 = .ok (.ireturn, 1) := by decide +kernel
theorem dX12_box_30 : decode cX12_box 30 = .ok (.aload_n 0, 1) := by decide +kernel
theorem dX12_box_31 : decode cX12_box 31 = .ok (.getfield 7, 3) := by decide +kernel
theorem dX12_box_34 : decode cX12_box 34 = .ok (.bipush 12, 2) := by decide +kernel
theorem dX12_box_36 : decode cX12_box 36 = .ok (.iaload, 1) := by decide +kernel
theorem dX12_box_37 : decode cX12_box 37 = .ok (.iconst 5, 1) := by decide +kernel
theorem dX12_box_38 : decode cX12_box 38 = .ok (.if_icmp .ne 9, 3) := by decide +kernel
theorem dX12_box_41 : decode cX12_box 41 = .ok (.aload_n 0, 1) := by decide +kernel
theorem dX12_box_42 : decode cX12_box 42 = .ok (.iconst 4, 1) := by decide +kernel
theorem dX12_box_43 : decode cX12_box 43 = .ok (.invokevirtual 61, 3) := by decide +kernel
theorem dX12_box_46 : decode cX12_box 46 = .ok (.ireturn, 1) := by decide +kernel
theorem dX12_box_47 : decode cX12_box 47 = .ok (.bipush 40, 2) := by decide +kernel
theorem dX12_box_49 : decode cX12_box 49 = .ok (.iconst 3, 1) := by decide +kernel
theorem dX12_box_50 : decode cX12_box 50 = .ok (.aload_n 0, 1) := by decide +kernel
theorem dX12_box_51 : decode cX12_box 51 = .ok (.getfield 7, 3) := by decide +kernel
theorem dX12_box_54 : decode cX12_box 54 = .ok (.bipush 12, 2) := by decide +kernel
theorem dX12_box_56 : decode cX12_box 56 = .ok (.iaload, 1) := by decide +kernel
theorem dX12_box_57 : decode cX12_box 57 = .ok (.imul, 1) := by decide +kernel
theorem dX12_box_58 : decode cX12_box 58 = .ok (.iadd, 1) := by decide +kernel
theorem dX12_box_59 : decode cX12_box 59 = .ok (.istore 4, 2) := by decide +kernel
theorem dX12_box_61 : decode cX12_box 61 = .ok (.aload_n 0, 1) := by decide +kernel
theorem dX12_box_62 : decode cX12_box 62 = .ok (.getfield 7, 3) := by decide +kernel
theorem dX12_box_65 : decode cX12_box 65 = .ok (.iload 4, 2) := by decide +kernel
theorem dX12_box_67 : decode cX12_box 67 = .ok (.iload_n 1, 1) := by decide +kernel
theorem dX12_box_68 : decode cX12_box 68 = .ok (.iastore, 1) := by decide +kernel
theorem dX12_box_69 : decode cX12_box 69 = .ok (.aload_n 0, 1) := by decide +kernel
theorem dX12_box_70 : decode cX12_box 70 = .ok (.getfield 7, 3) := by decide +kernel
theorem dX12_box_73 : decode cX12_box 73 = .ok (.iload 4, 2) := by decide +kernel
theorem dX12_box_75 : decode cX12_box 75 = .ok (.iconst 1, 1) := by decide +kernel
theorem dX12_box_76 : decode cX12_box 76 = .ok (.iadd, 1) := by decide +kernel
theorem dX12_box_77 : decode cX12_box 77 = .ok (.iload_n 2, 1) := by decide +kernel
theorem dX12_box_78 : decode cX12_box 78 = .ok (.iastore, 1) := by decide +kernel
theorem dX12_box_79 : decode cX12_box 79 = .ok (.aload_n 0, 1) := by decide +kernel
theorem dX12_box_80 : decode cX12_box 80 = .ok (.getfield 7, 3) := by decide +kernel
theorem dX12_box_83 : decode cX12_box 83 = .ok (.iload 4, 2) := by decide +kernel
theorem dX12_box_85 : decode cX12_box 85 = .ok (.iconst 2, 1) := by decide +kernel
theorem dX12_box_86 : decode cX12_box 86 = .ok (.iadd, 1) := by decide +kernel
theorem dX12_box_87 : decode cX12_box 87 = .ok (.iload_n 3, 1) := by decide +kernel
theorem dX12_box_88 : decode cX12_box 88 = .ok (.iastore, 1) := by decide +kernel
theorem dX12_box_89 : decode cX12_box 89 = .ok (.aload_n 0, 1) := by decide +kernel
theorem dX12_box_90 : decode cX12_box 90 = .ok (.getfield 7, 3) := by decide +kernel
theorem dX12_box_93 : decode cX12_box 93 = .ok (.bipush 12, 2) := by decide +kernel
theorem dX12_box_95 : decode cX12_box 95 = .ok (.dup2, 1) := by decide +kernel
theorem dX12_box_96 : decode cX12_box 96 = .ok (.iaload, 1) := by decide +kernel
theorem dX12_box_97 : decode cX12_box 97 = .ok (.iconst 1, 1) := by decide +kernel
theorem dX12_box_98 : decode cX12_box 98 = .ok (.iadd, 1) := by decide +kernel
theorem dX12_box_99 : decode cX12_box 99 = .ok (.iastore, 1) := by decide +kernel
theorem dX12_box_100 : decode cX12_box 100 = .ok (.aload_n 0, 1) := by decide +kernel
theorem dX12_box_101 : decode cX12_box 101 = .ok (.getfield 7, 3) := by decide +kernel
theorem dX12_box_104 : decode cX12_box 104 = .ok (.bipush 12, 2) := by decide +kernel
theorem dX12_box_106 : decode cX12_box 106 = .ok (.iaload, 1) := by decide +kernel
theorem dX12_box_107 : decode cX12_box 107 = .ok (.iconst 1, 1) := by decide +kernel
theorem dX12_box_108 : decode cX12_box 108 = .ok (.isub, 1) := by decide +kernel
theorem dX12_box_109 : decode cX12_box 109 = .ok (.ireturn, 1) := by decide +kernel
theorem dX12_areUnlike_0 : decode cX12_areUnlike 0 = .ok (.aload_n 0, 1) := by decide +kernel
theorem dX12_areUnlike_1 : decode cX12_areUnlike 1 = .ok (.getfield 28, 3) := by decide +kernel
theorem dX12_areUnlike_4 : decode cX12_areUnlike 4 = .ok (.iload_n 1, 1) := by decide +kernel
theorem dX12_areUnlike_5 : decode cX12_areUnlike 5 = .ok (.iaload, 1) := by decide +kernel
theorem dX12_areUnlike_6 : decode cX12_areUnlike 6 = .ok (.aload_n 0, 1) := by decide +kernel
theorem dX12_areUnlike_7 : decode cX12_areUnlike 7 = .ok (.getfield 28, 3) := by decide +kernel
theorem dX12_areUnlike_10 : decode cX12_areUnlike 10 = .ok (.iload_n 2, 1) := by decide +kernel
theorem dX12_areUnlike_11 : decode cX12_areUnlike 11 = .ok (.iaload, 1) := by decide +kernel
theorem dX12_areUnlike_12 : decode cX12_areUnlike 12 = .ok (.if_icmp .eq 7, 3) := by decide +kernel
theorem dX12_areUnlike_15 : decode cX12_areUnlike 15 = .ok (.iconst 1, 1) := by decide +kernel
theorem dX12_areUnlike_16 : decode cX12_areUnlike 16 = .ok (.goto 4, 3) := by decide +kernel
theorem dX12_areUnlike_19 : decode cX12_areUnlike 19 = .ok (.iconst 0, 1) := by decide +kernel
theorem dX12_areUnlike_20 : decode cX12_areUnlike 20 = .ok (.istore_n 3, 1) := by decide +kernel
theorem dX12_areUnlike_21 : decode cX12_areUnlike 21 = .ok (.iconst 0, 1) := by decide +kernel
theorem dX12_areUnlike_22 : decode cX12_areUnlike 22 = .ok (.istore 4, 2) := by decide +kernel
theorem dX12_areUnlike_24 : decode cX12_areUnlike 24 = .ok (.iload 4, 2) := by decide +kernel
theorem dX12_areUnlike_26 : decode cX12_areUnlike 26 = .ok (.aload_n 0, 1) := by decide +kernel
theorem dX12_areUnlike_27 : decode cX12_areUnlike 27 = .ok (.getfield 28, 3) := by decide +kernel
theorem dX12_areUnlike_30 : decode cX12_areUnlike 30 = .ok (.iload_n 1, 1) := by decide +kernel
theorem dX12_areUnlike_31 : decode cX12_areUnlike 31 = .ok (.iaload, 1) := by decide +kernel
theorem dX12_areUnlike_32 : decode cX12_areUnlike 32 = .ok (.if_icmp .ge 46, 3) := by decide +kernel
theorem dX12_areUnlike_35 : decode cX12_areUnlike 35 = .ok (.iload_n 3, 1) := by decide +kernel
theorem dX12_areUnlike_36 : decode cX12_areUnlike 36 = .ok (.ifCond .ne 42, 3) := by decide +kernel
theorem dX12_areUnlike_39 : decode cX12_areUnlike 39 = .ok (.aload_n 0, 1) := by decide +kernel
theorem dX12_areUnlike_40 : decode cX12_areUnlike 40 = .ok (.getfield 31, 3) := by decide +kernel
theorem dX12_areUnlike_43 : decode cX12_areUnlike 43 = .ok (.bipush 40, 2) := by decide +kernel
theorem dX12_areUnlike_45 : decode cX12_areUnlike 45 = .ok (.iload_n 1, 1) := by decide +kernel
theorem dX12_areUnlike_46 : decode cX12_areUnlike 46 = .ok (.imul, 1) := by decide +kernel
theorem dX12_areUnlike_47 : decode cX12_areUnlike 47 = .ok (.iload 4, 2) := by decide +kernel
theorem dX12_areUnlike_49 : decode cX12_areUnlike 49 = .ok (.iadd, 1) := by decide +kernel
theorem dX12_areUnlike_50 : decode cX12_areUnlike 50 = .ok (.iaload, 1) := by decide +kernel
theorem dX12_areUnlike_51 : decode cX12_areUnlike 51 = .ok (.aload_n 0, 1) := by decide +kernel
theorem dX12_areUnlike_52 : decode cX12_areUnlike 52 = .ok (.getfield 31, 3) := by decide +kernel
theorem dX12_areUnlike_55 : decode cX12_areUnlike 55 = .ok (.bipush 40, 2) := by decide +kernel
theorem dX12_areUnlike_57 : decode cX12_areUnlike 57 = .ok (.iload_n 2, 1) := by decide +kernel
theorem dX12_areUnlike_58 : decode cX12_areUnlike 58 = .ok (.imul, 1) := by decide +kernel
theorem dX12_areUnlike_59 : decode cX12_areUnlike 59 = .ok (.iload 4, 2) := by decide +kernel
theorem dX12_areUnlike_61 : decode cX12_areUnlike 61 = .ok (.iadd, 1) := by decide +kernel
theorem dX12_areUnlike_62 : decode cX12_areUnlike 62 = .ok (.iaload, 1) := by decide +kernel
theorem dX12_areUnlike_63 : decode cX12_areUnlike 63 = .ok (.if_icmp .eq 7, 3) := by decide +kernel
theorem dX12_areUnlike_66 : decode cX12_areUnlike 66 = .ok (.iconst 1, 1) := by decide +kernel
theorem dX12_areUnlike_67 : decode cX12_areUnlike 67 = .ok (.goto 4, 3) := by decide +kernel
theorem dX12_areUnlike_70 : decode cX12_areUnlike 70 = .ok (.iconst 0, 1) := by decide +kernel
theorem dX12_areUnlike_71 : decode cX12_areUnlike 71 = .ok (.istore_n 3, 1) := by decide +kernel
theorem dX12_areUnlike_72 : decode cX12_areUnlike 72 = .ok (.iinc 4 1, 3) := by decide +kernel
theorem dX12_areUnlike_75 : decode cX12_areUnlike 75 = .ok (.goto (-51), 3) := by decide +kernel
theorem dX12_areUnlike_78 : decode cX12_areUnlike 78 = .ok (.iload_n 3, 1) := by decide +kernel
theorem dX12_areUnlike_79 : decode cX12_areUnlike 79 = .ok (.ireturn, 1) := by decide +kernel
theorem dX12_unlikeIn_0 : decode cX12_unlikeIn 0 = .ok (.iconst 0, 1) := by decide +kernel
theorem dX12_unlikeIn_1 : decode cX12_unlikeIn 1 = .ok (.istore_n 2, 1) := by decide +kernel
theorem dX12_unlikeIn_2 : decode cX12_unlikeIn 2 = .ok (.iload_n 2, 1) := by decide +kernel
theorem dX12_unlikeIn_3 : decode cX12_unlikeIn 3 = .ok (.aload_n 0, 1) := by decide +kernel
theorem dX12_unlikeIn_4 : decode cX12_unlikeIn 4 = .ok (.getfield 7, 3) := by decide +kernel
theorem dX12_unlikeIn_7 : decode cX12_unlikeIn 7 = .ok (.bipush 11, 2) := by decide +kernel
theorem dX12_unlikeIn_9 : decode cX12_unlikeIn 9 = .ok (.iaload, 1) := by decide +kernel
theorem dX12_unlikeIn_10 : decode cX12_unlikeIn 10 = .ok (.if_icmp .ge 134, 3) := by decide +kernel
theorem dX12_unlikeIn_13 : decode cX12_unlikeIn 13 = .ok (.aload_n 0, 1) := by decide +kernel
theorem dX12_unlikeIn_14 : decode cX12_unlikeIn 14 = .ok (.invokevirtual 229, 3) := by decide +kernel
theorem dX12_unlikeIn_17 : decode cX12_unlikeIn 17 = .ok (.aload_n 0, 1) := by decide +kernel
theorem dX12_unlikeIn_18 : decode cX12_unlikeIn 18 = .ok (.getfield 13, 3) := by decide +kernel
theorem dX12_unlikeIn_21 : decode cX12_unlikeIn 21 = .ok (.bipush 6, 2) := by decide +kernel
theorem dX12_unlikeIn_23 : decode cX12_unlikeIn 23 = .ok (.aload_n 0, 1) := by decide +kernel
theorem dX12_unlikeIn_24 : decode cX12_unlikeIn 24 = .ok (.getfield 7, 3) := by decide +kernel
theorem dX12_unlikeIn_27 : decode cX12_unlikeIn 27 = .ok (.bipush 40, 2) := by decide +kernel
theorem dX12_unlikeIn_29 : decode cX12_unlikeIn 29 = .ok (.iconst 3, 1) := by decide +kernel
theorem dX12_unlikeIn_30 : decode cX12_unlikeIn 30 = .ok (.iload_n 1, 1) := by decide +kernel
theorem dX12_unlikeIn_31 : decode cX12_unlikeIn 31 = .ok (.imul, 1) := by decide +kernel
theorem dX12_unlikeIn_32 : decode cX12_unlikeIn 32 = .ok (.iadd, 1) := by decide +kernel
theorem dX12_unlikeIn_33 : decode cX12_unlikeIn 33 = .ok (.iaload, 1) := by decide +kernel
theorem dX12_unlikeIn_34 : decode cX12_unlikeIn 34 = .ok (.iastore, 1) := by decide +kernel
theorem dX12_unlikeIn_35 : decode cX12_unlikeIn 35 = .ok (.aload_n 0, 1) := by decide +kernel
theorem dX12_unlikeIn_36 : decode cX12_unlikeIn 36 = .ok (.getfield 13, 3) := by decide +kernel
theorem dX12_unlikeIn_39 : decode cX12_unlikeIn 39 = .ok (.bipush 7, 2) := by decide +kernel
theorem dX12_unlikeIn_41 : decode cX12_unlikeIn 41 = .ok (.aload_n 0, 1) := by decide +kernel
theorem dX12_unlikeIn_42 : decode cX12_unlikeIn 42 = .ok (.getfield 7, 3) := by decide +kernel
theorem dX12_unlikeIn_45 : decode cX12_unlikeIn 45 = .ok (.bipush 40, 2) := by decide +kernel
theorem dX12_unlikeIn_47 : decode cX12_unlikeIn 47 = .ok (.iconst 3, 1) := by decide +kernel
theorem dX12_unlikeIn_48 : decode cX12_unlikeIn 48 = .ok (.iload_n 1, 1) := by decide +kernel
theorem dX12_unlikeIn_49 : decode cX12_unlikeIn 49 = .ok (.imul, 1) := by decide +kernel
theorem dX12_unlikeIn_50 : decode cX12_unlikeIn 50 = .ok (.iadd, 1) := by decide +kernel
theorem dX12_unlikeIn_51 : decode cX12_unlikeIn 51 = .ok (.iconst 1, 1) := by decide +kernel
theorem dX12_unlikeIn_52 : decode cX12_unlikeIn 52 = .ok (.iadd, 1) := by decide +kernel
theorem dX12_unlikeIn_53 : decode cX12_unlikeIn 53 = .ok (.iaload, 1) := by decide +kernel
theorem dX12_unlikeIn_54 : decode cX12_unlikeIn 54 = .ok (.iastore, 1) := by decide +kernel
theorem dX12_unlikeIn_55 : decode cX12_unlikeIn 55 = .ok (.aload_n 0, 1) := by decide +kernel
theorem dX12_unlikeIn_56 : decode cX12_unlikeIn 56 = .ok (.getfield 13, 3) := by decide +kernel
theorem dX12_unlikeIn_59 : decode cX12_unlikeIn 59 = .ok (.iconst 5, 1) := by decide +kernel
theorem dX12_unlikeIn_60 : decode cX12_unlikeIn 60 = .ok (.aload_n 0, 1) := by decide +kernel
theorem dX12_unlikeIn_61 : decode cX12_unlikeIn 61 = .ok (.getfield 7, 3) := by decide +kernel
theorem dX12_unlikeIn_64 : decode cX12_unlikeIn 64 = .ok (.bipush 40, 2) := by decide +kernel
theorem dX12_unlikeIn_66 : decode cX12_unlikeIn 66 = .ok (.iconst 3, 1) := by decide +kernel
theorem dX12_unlikeIn_67 : decode cX12_unlikeIn 67 = .ok (.iload_n 1, 1) := by decide +kernel
theorem dX12_unlikeIn_68 : decode cX12_unlikeIn 68 = .ok (.imul, 1) := by decide +kernel
theorem dX12_unlikeIn_69 : decode cX12_unlikeIn 69 = .ok (.iadd, 1) := by decide +kernel
theorem dX12_unlikeIn_70 : decode cX12_unlikeIn 70 = .ok (.iconst 2, 1) := by decide +kernel
theorem dX12_unlikeIn_71 : decode cX12_unlikeIn 71 = .ok (.iadd, 1) := by decide +kernel
theorem dX12_unlikeIn_72 : decode cX12_unlikeIn 72 = .ok (.iaload, 1) := by decide +kernel
theorem dX12_unlikeIn_73 : decode cX12_unlikeIn 73 = .ok (.iastore, 1) := by decide +kernel
theorem dX12_unlikeIn_74 : decode cX12_unlikeIn 74 = .ok (.aload_n 0, 1) := by decide +kernel
theorem dX12_unlikeIn_75 : decode cX12_unlikeIn 75 = .ok (.getfield 13, 3) := by decide +kernel
theorem dX12_unlikeIn_78 : decode cX12_unlikeIn 78 = .ok (.bipush 10, 2) := by decide +kernel
theorem dX12_unlikeIn_80 : decode cX12_unlikeIn 80 = .ok (.iconst 1, 1) := by decide +kernel
theorem dX12_unlikeIn_81 : decode cX12_unlikeIn 81 = .ok (.iload_n 2, 1) := by decide +kernel
theorem dX12_unlikeIn_82 : decode cX12_unlikeIn 82 = .ok (.ishl, 1) := by decide +kernel
theorem dX12_unlikeIn_83 : decode cX12_unlikeIn 83 = .ok (.iastore, 1) := by decide +kernel
theorem dX12_unlikeIn_84 : decode cX12_unlikeIn 84 = .ok (.aload_n 0, 1) := by decide +kernel
theorem dX12_unlikeIn_85 : decode cX12_unlikeIn 85 = .ok (.aload_n 0, 1) := by decide +kernel
theorem dX12_unlikeIn_86 : decode cX12_unlikeIn 86 = .ok (.getfield 232, 3) := by decide +kernel
theorem dX12_unlikeIn_89 : decode cX12_unlikeIn 89 = .ok (.invokevirtual 203, 3) := by decide +kernel
theorem dX12_unlikeIn_92 : decode cX12_unlikeIn 92 = .ok (.aload_n 0, 1) := by decide +kernel
theorem dX12_unlikeIn_93 : decode cX12_unlikeIn 93 = .ok (.getfield 28, 3) := by decide +kernel
theorem dX12_unlikeIn_96 : decode cX12_unlikeIn 96 = .ok (.iload_n 2, 1) := by decide +kernel
theorem dX12_unlikeIn_97 : decode cX12_unlikeIn 97 = .ok (.aload_n 0, 1) := by decide +kernel
theorem dX12_unlikeIn_98 : decode cX12_unlikeIn 98 = .ok (.getfield 13, 3) := by decide +kernel
theorem dX12_unlikeIn_101 : decode cX12_unlikeIn 101 = .ok (.iconst 1, 1) := by decide +kernel
theorem dX12_unlikeIn_102 : decode cX12_unlikeIn 102 = .ok (.iaload, 1) := by decide +kernel
theorem dX12_unlikeIn_103 : decode cX12_unlikeIn 103 = .ok (.iastore, 1) := by decide +kernel
theorem dX12_unlikeIn_104 : decode cX12_unlikeIn 104 = .ok (.iconst 0, 1) := by decide +kernel
theorem dX12_unlikeIn_105 : decode cX12_unlikeIn 105 = .ok (.istore_n 3, 1) := by decide +kernel
theorem dX12_unlikeIn_106 : decode cX12_unlikeIn 106 = .ok (.iload_n 3, 1) := by decide +kernel
theorem dX12_unlikeIn_107 : decode cX12_unlikeIn 107 = .ok (.bipush 40, 2) := by decide +kernel
theorem dX12_unlikeIn_109 : decode cX12_unlikeIn 109 = .ok (.if_icmp .ge 29, 3) := by decide +kernel
theorem dX12_unlikeIn_112 : decode cX12_unlikeIn 112 = .ok (.aload_n 0, 1) := by decide +kernel
theorem dX12_unlikeIn_113 : decode cX12_unlikeIn 113 = .ok (.getfield 31, 3) := by decide +kernel
theorem dX12_unlikeIn_116 : decode cX12_unlikeIn 116 = .ok (.bipush 40, 2) := by decide +kernel
theorem dX12_unlikeIn_118 : decode cX12_unlikeIn 118 = .ok (.iload_n 2, 1) := by decide +kernel
theorem dX12_unlikeIn_119 : decode cX12_unlikeIn 119 = .ok (.imul, 1) := by decide +kernel
theorem dX12_unlikeIn_120 : decode cX12_unlikeIn 120 = .ok (.iload_n 3, 1) := by decide +kernel
theorem dX12_unlikeIn_121 : decode cX12_unlikeIn 121 = .ok (.iadd, 1) := by decide +kernel
theorem dX12_unlikeIn_122 : decode cX12_unlikeIn 122 = .ok (.aload_n 0, 1) := by decide +kernel
theorem dX12_unlikeIn_123 : decode cX12_unlikeIn 123 = .ok (.getfield 13, 3) := by decide +kernel
theorem dX12_unlikeIn_126 : decode cX12_unlikeIn 126 = .ok (.bipush 100, 2) := by decide +kernel
theorem dX12_unlikeIn_128 : decode cX12_unlikeIn 128 = .ok (.iload_n 3, 1) := by decide +kernel
theorem dX12_unlikeIn_129 : decode cX12_unlikeIn 129 = .ok (.iadd, 1) := by decide +kernel
theorem dX12_unlikeIn_130 : decode cX12_unlikeIn 130 = .ok (.iaload, 1) := by decide +kernel
theorem dX12_unlikeIn_131 : decode cX12_unlikeIn 131 = .ok (.iastore, 1) := by decide +kernel
theorem dX12_unlikeIn_132 : decode cX12_unlikeIn 132 = .ok (.iinc 3 1, 3) := by decide +kernel
theorem dX12_unlikeIn_135 : decode cX12_unlikeIn 135 = .ok (.goto (-29), 3) := by decide +kernel
theorem dX12_unlikeIn_138 : decode cX12_unlikeIn 138 = .ok (.iinc 2 1, 3) := by decide +kernel
theorem dX12_unlikeIn_141 : decode cX12_unlikeIn 141 = .ok (.goto (-139), 3) := by decide +kernel
theorem dX12_unlikeIn_144 : decode cX12_unlikeIn 144 = .ok (.iconst 0, 1) := by decide +kernel
theorem dX12_unlikeIn_145 : decode cX12_unlikeIn 145 = .ok (.istore_n 2, 1) := by decide +kernel
theorem dX12_unlikeIn_146 : decode cX12_unlikeIn 146 = .ok (.iconst 0, 1) := by decide +kernel
theorem dX12_unlikeIn_147 : decode cX12_unlikeIn 147 = .ok (.istore_n 3, 1) := by decide +kernel
theorem dX12_unlikeIn_148 : decode cX12_unlikeIn 148 = .ok (.iload_n 3, 1) := by decide +kernel
theorem dX12_unlikeIn_149 : decode cX12_unlikeIn 149 = .ok (.aload_n 0, 1) := by decide +kernel
theorem dX12_unlikeIn_150 : decode cX12_unlikeIn 150 = .ok (.getfield 7, 3) := by decide +kernel
theorem dX12_unlikeIn_153 : decode cX12_unlikeIn 153 = .ok (.bipush 11, 2) := by decide +kernel
theorem dX12_unlikeIn_155 : decode cX12_unlikeIn 155 = .ok (.iaload, 1) := by decide +kernel
theorem dX12_unlikeIn_156 : decode cX12_unlikeIn 156 = .ok (.if_icmp .ge 42, 3) := by decide +kernel
theorem dX12_unlikeIn_159 : decode cX12_unlikeIn 159 = .ok (.iconst 0, 1) := by decide +kernel
theorem dX12_unlikeIn_160 : decode cX12_unlikeIn 160 = .ok (.istore 4, 2) := by decide +kernel
theorem dX12_unlikeIn_162 : decode cX12_unlikeIn 162 = .ok (.iload 4, 2) := by decide +kernel
theorem dX12_unlikeIn_164 : decode cX12_unlikeIn 164 = .ok (.iload_n 3, 1) := by decide +kernel
theorem dX12_unlikeIn_165 : decode cX12_unlikeIn 165 = .ok (.if_icmp .ge 27, 3) := by decide +kernel
theorem dX12_unlikeIn_168 : decode cX12_unlikeIn 168 = .ok (.iload_n 2, 1) := by decide +kernel
theorem dX12_unlikeIn_169 : decode cX12_unlikeIn 169 = .ok (.aload_n 0, 1) := by decide +kernel
theorem dX12_unlikeIn_170 : decode cX12_unlikeIn 170 = .ok (.iload_n 3, 1) := by decide +kernel
theorem dX12_unlikeIn_171 : decode cX12_unlikeIn 171 = .ok (.iload 4, 2) := by decide +kernel
theorem dX12_unlikeIn_173 : decode cX12_unlikeIn 173 = .ok (.invokevirtual 235, 3) := by decide +kernel
theorem dX12_unlikeIn_176 : decode cX12_unlikeIn 176 = .ok (.ifCond .eq 7, 3) := by decide +kernel
theorem dX12_unlikeIn_179 : decode cX12_unlikeIn 179 = .ok (.iconst 1, 1) := by decide +kernel
theorem dX12_unlikeIn_180 : decode cX12_unlikeIn 180 = .ok (.goto 4, 3) := by decide +kernel
theorem dX12_unlikeIn_183 : decode cX12_unlikeIn 183 = .ok (.iconst 0, 1) := by decide +kernel
theorem dX12_unlikeIn_184 : decode cX12_unlikeIn 184 = .ok (.iadd, 1) := by decide +kernel
theorem dX12_unlikeIn_185 : decode cX12_unlikeIn 185 = .ok (.istore_n 2, 1) := by decide +kernel
theorem dX12_unlikeIn_186 : decode cX12_unlikeIn 186 = .ok (.iinc 4 1, 3) := by decide +kernel
theorem dX12_unlikeIn_189 : decode cX12_unlikeIn 189 = .ok (.goto (-27), 3) := by decide +kernel
theorem dX12_unlikeIn_192 : decode cX12_unlikeIn 192 = .ok (.iinc 3 1, 3) := by decide +kernel
theorem dX12_unlikeIn_195 : decode cX12_unlikeIn 195 = .ok (.goto (-47), 3) := by decide +kernel
theorem dX12_unlikeIn_198 : decode cX12_unlikeIn 198 = .ok (.iload_n 2, 1) := by decide +kernel
theorem dX12_unlikeIn_199 : decode cX12_unlikeIn 199 = .ok (.ireturn, 1) := by decide +kernel
theorem dX12_tries_0 : decode cX12_tries 0 = .ok (.iload_n 1, 1) := by decide +kernel
theorem dX12_tries_1 : decode cX12_tries 1 = .ok (.invokestatic 207, 3) := by decide +kernel
theorem dX12_tries_4 : decode cX12_tries 4 = .ok (.ifCond .ne 9, 3) := by decide +kernel
theorem dX12_tries_7 : decode cX12_tries 7 = .ok (.aload_n 0, 1) := by decide +kernel
theorem dX12_tries_8 : decode cX12_tries 8 = .ok (.iconst 1, 1) := by decide +kernel
theorem dX12_tries_9 : decode cX12_tries 9 = .ok (.invokevirtual 61, 3) := by decide +kernel
theorem dX12_tries_12 : decode cX12_tries 12 = .ok (.ireturn, 1) := by decide +kernel
theorem dX12_tries_13 : decode cX12_tries 13 = .ok (.aload_n 0, 1) := by decide +kernel
theorem dX12_tries_14 : decode cX12_tries 14 = .ok (.getfield 7, 3) := by decide +kernel
theorem dX12_tries_17 : decode cX12_tries 17 = .ok (.bipush 12, 2) := by decide +kernel
theorem dX12_tries_19 : decode cX12_tries 19 = .ok (.iaload, 1) := by decide +kernel
theorem dX12_tries_20 : decode cX12_tries 20 = .ok (.ifCond .ne 9, 3) := by decide +kernel
theorem dX12_tries_23 : decode cX12_tries 23 = .ok (.aload_n 0, 1) := by decide +kernel
theorem dX12_tries_24 : decode cX12_tries 24 = .ok (.iconst 2, 1) := by decide +kernel
theorem dX12_tries_25 : decode cX12_tries 25 = .ok (.invokevirtual 61, 3) := by decide +kernel
theorem dX12_tries_28 : decode cX12_tries 28 = .ok (.ireturn, 1) := by decide +kernel
theorem dX12_tries_29 : decode cX12_tries 29 = .ok (.aload_n 0, 1) := by decide +kernel
theorem dX12_tries_30 : decode cX12_tries 30 = .ok (.iload_n 1, 1) := by decide +kernel
theorem dX12_tries_31 : decode cX12_tries 31 = .ok (.putfield 232, 3) := by decide +kernel
theorem dX12_tries_34 : decode cX12_tries 34 = .ok (.iconst 0, 1) := by decide +kernel
theorem dX12_tries_35 : decode cX12_tries 35 = .ok (.istore_n 2, 1) := by decide +kernel
theorem dX12_tries_36 : decode cX12_tries 36 = .ok (.iconst (-1), 1) := by decide +kernel
theorem dX12_tries_37 : decode cX12_tries 37 = .ok (.istore_n 3, 1) := by decide +kernel
theorem dX12_tries_38 : decode cX12_tries 38 = .ok (.iconst 0, 1) := by decide +kernel
theorem dX12_tries_39 : decode cX12_tries 39 = .ok (.istore 4, 2) := by decide +kernel
theorem dX12_tries_41 : decode cX12_tries 41 = .ok (.iload 4, 2) := by decide +kernel
theorem dX12_tries_43 : decode cX12_tries 43 = .ok (.aload_n 0, 1) := by decide +kernel
theorem dX12_tries_44 : decode cX12_tries 44 = .ok (.getfield 7, 3) := by decide +kernel
theorem dX12_tries_47 : decode cX12_tries 47 = .ok (.bipush 12, 2) := by decide +kernel
theorem dX12_tries_49 : decode cX12_tries 49 = .ok (.iaload, 1) := by decide +kernel
theorem dX12_tries_50 : decode cX12_tries 50 = .ok (.if_icmp .ge 43, 3) := by decide +kernel
theorem dX12_tries_53 : decode cX12_tries 53 = .ok (.aload_n 0, 1) := by decide +kernel
theorem dX12_tries_54 : decode cX12_tries 54 = .ok (.iload 4, 2) := by decide +kernel
theorem dX12_tries_56 : decode cX12_tries 56 = .ok (.invokevirtual 238, 3) := by decide +kernel
theorem dX12_tries_59 : decode cX12_tries 59 = .ok (.istore 5, 2) := by decide +kernel
theorem dX12_tries_61 : decode cX12_tries 61 = .ok (.iload 5, 2) := by decide +kernel
theorem dX12_tries_63 : decode cX12_tries 63 = .ok (.iload_n 3, 1) := by decide +kernel
theorem dX12_tries_64 : decode cX12_tries 64 = .ok (.if_icmp .le 8, 3) := by decide +kernel
theorem dX12_tries_67 : decode cX12_tries 67 = .ok (.iload 4, 2) := by decide +kernel
theorem dX12_tries_69 : decode cX12_tries 69 = .ok (.goto 4, 3) := by decide +kernel
theorem dX12_tries_72 : decode cX12_tries 72 = .ok (.iload_n 2, 1) := by decide +kernel
theorem dX12_tries_73 : decode cX12_tries 73 = .ok (.istore_n 2, 1) := by decide +kernel
theorem dX12_tries_74 : decode cX12_tries 74 = .ok (.iload 5, 2) := by decide +kernel
theorem dX12_tries_76 : decode cX12_tries 76 = .ok (.iload_n 3, 1) := by decide +kernel
theorem dX12_tries_77 : decode cX12_tries 77 = .ok (.if_icmp .le 8, 3) := by decide +kernel
theorem dX12_tries_80 : decode cX12_tries 80 = .ok (.iload 5, 2) := by decide +kernel
theorem dX12_tries_82 : decode cX12_tries 82 = .ok (.goto 4, 3) := by decide +kernel
theorem dX12_tries_85 : decode cX12_tries 85 = .ok (.iload_n 3, 1) := by decide +kernel
theorem dX12_tries_86 : decode cX12_tries 86 = .ok (.istore_n 3, 1) := by decide +kernel
theorem dX12_tries_87 : decode cX12_tries 87 = .ok (.iinc 4 1, 3) := by decide +kernel
theorem dX12_tries_90 : decode cX12_tries 90 = .ok (.goto (-49), 3) := by decide +kernel
theorem dX12_tries_93 : decode cX12_tries 93 = .ok (.iload_n 2, 1) := by decide +kernel
theorem dX12_tries_94 : decode cX12_tries 94 = .ok (.ireturn, 1) := by decide +kernel
theorem dX12_seed_0 : decode cX12_seed 0 = .ok (.aload_n 0, 1) := by decide +kernel
theorem dX12_seed_1 : decode cX12_seed 1 = .ok (.getfield 7, 3) := by decide +kernel
theorem dX12_seed_4 : decode cX12_seed 4 = .ok (.bipush 13, 2) := by decide +kernel
theorem dX12_seed_6 : decode cX12_seed 6 = .ok (.iaload, 1) := by decide +kernel
theorem dX12_seed_7 : decode cX12_seed 7 = .ok (.istore_n 2, 1) := by decide +kernel
theorem dX12_seed_8 : decode cX12_seed 8 = .ok (.aload_n 0, 1) := by decide +kernel
theorem dX12_seed_9 : decode cX12_seed 9 = .ok (.getfield 7, 3) := by decide +kernel
theorem dX12_seed_12 : decode cX12_seed 12 = .ok (.bipush 13, 2) := by decide +kernel
theorem dX12_seed_14 : decode cX12_seed 14 = .ok (.iload_n 1, 1) := by decide +kernel
theorem dX12_seed_15 : decode cX12_seed 15 = .ok (.iastore, 1) := by decide +kernel
theorem dX12_seed_16 : decode cX12_seed 16 = .ok (.iload_n 2, 1) := by decide +kernel
theorem dX12_seed_17 : decode cX12_seed 17 = .ok (.ireturn, 1) := by decide +kernel
theorem dX12_ran_0 : decode cX12_ran 0 = .ok (.aload_n 0, 1) := by decide +kernel
theorem dX12_ran_1 : decode cX12_ran 1 = .ok (.getfield 241, 3) := by decide +kernel
theorem dX12_ran_4 : decode cX12_ran 4 = .ok (.bipush 40, 2) := by decide +kernel
theorem dX12_ran_6 : decode cX12_ran 6 = .ok (.if_icmp .ge 23, 3) := by decide +kernel
theorem dX12_ran_9 : decode cX12_ran 9 = .ok (.aload_n 0, 1) := by decide +kernel
theorem dX12_ran_10 : decode cX12_ran 10 = .ok (.getfield 34, 3) := by decide +kernel
theorem dX12_ran_13 : decode cX12_ran 13 = .ok (.aload_n 0, 1) := by decide +kernel
theorem dX12_ran_14 : decode cX12_ran 14 = .ok (.getfield 241, 3) := by decide +kernel
theorem dX12_ran_17 : decode cX12_ran 17 = .ok (.iload_n 1, 1) := by decide +kernel
theorem dX12_ran_18 : decode cX12_ran 18 = .ok (.iastore, 1) := by decide +kernel
theorem dX12_ran_19 : decode cX12_ran 19 = .ok (.aload_n 0, 1) := by decide +kernel
theorem dX12_ran_20 : decode cX12_ran 20 = .ok (.dup, 1) := by decide +kernel
theorem dX12_ran_21 : decode cX12_ran 21 = .ok (.getfield 241, 3) := by decide +kernel
theorem dX12_ran_24 : decode cX12_ran 24 = .ok (.iconst 1, 1) := by decide +kernel
theorem dX12_ran_25 : decode cX12_ran 25 = .ok (.iadd, 1) := by decide +kernel
theorem dX12_ran_26 : decode cX12_ran 26 = .ok (.putfield 241, 3) := by decide +kernel
theorem dX12_ran_29 : decode cX12_ran 29 = .ok (.return_, 1) := by decide +kernel
theorem dX12_above_0 : decode cX12_above 0 = .ok (.iload_n 0, 1) := by decide +kernel
theorem dX12_above_1 : decode cX12_above 1 = .ok (.iconst 3, 1) := by decide +kernel
theorem dX12_above_2 : decode cX12_above 2 = .ok (.if_icmp .ne 7, 3) := by decide +kernel
theorem dX12_above_5 : decode cX12_above 5 = .ok (.iconst 2, 1) := by decide +kernel
theorem dX12_above_6 : decode cX12_above 6 = .ok (.goto 23, 3) := by decide +kernel
theorem dX12_above_9 : decode cX12_above 9 = .ok (.iload_n 0, 1) := by decide +kernel
theorem dX12_above_10 : decode cX12_above 10 = .ok (.iconst 4, 1) := by decide +kernel
theorem dX12_above_11 : decode cX12_above 11 = .ok (.if_icmp .ne 7, 3) := by decide +kernel
theorem dX12_above_14 : decode cX12_above 14 = .ok (.iconst 3, 1) := by decide +kernel
theorem dX12_above_15 : decode cX12_above 15 = .ok (.goto 14, 3) := by decide +kernel
theorem dX12_above_18 : decode cX12_above 18 = .ok (.iload_n 0, 1) := by decide +kernel
theorem dX12_above_19 : decode cX12_above 19 = .ok (.bipush 6, 2) := by decide +kernel
theorem dX12_above_21 : decode cX12_above 21 = .ok (.if_icmp .ne 7, 3) := by decide +kernel
theorem dX12_above_24 : decode cX12_above 24 = .ok (.iconst 1, 1) := by decide +kernel
theorem dX12_above_25 : decode cX12_above 25 = .ok (.goto 4, 3) := by decide +kernel
theorem dX12_above_28 : decode cX12_above 28 = .ok (.iconst 0, 1) := by decide +kernel
theorem dX12_above_29 : decode cX12_above 29 = .ok (.ireturn, 1) := by decide +kernel
theorem dX12_own_0 : decode cX12_own 0 = .ok (.aload_n 0, 1) := by decide +kernel
theorem dX12_own_1 : decode cX12_own 1 = .ok (.getfield 7, 3) := by decide +kernel
theorem dX12_own_4 : decode cX12_own 4 = .ok (.bipush 20, 2) := by decide +kernel
theorem dX12_own_6 : decode cX12_own 6 = .ok (.iconst 2, 1) := by decide +kernel
theorem dX12_own_7 : decode cX12_own 7 = .ok (.aload_n 0, 1) := by decide +kernel
theorem dX12_own_8 : decode cX12_own 8 = .ok (.getfield 244, 3) := by decide +kernel
theorem dX12_own_11 : decode cX12_own 11 = .ok (.imul, 1) := by decide +kernel
theorem dX12_own_12 : decode cX12_own 12 = .ok (.iadd, 1) := by decide +kernel
theorem dX12_own_13 : decode cX12_own 13 = .ok (.iaload, 1) := by decide +kernel
theorem dX12_own_14 : decode cX12_own 14 = .ok (.ireturn, 1) := by decide +kernel
theorem dX12_toldM_0 : decode cX12_toldM 0 = .ok (.aload_n 0, 1) := by decide +kernel
theorem dX12_toldM_1 : decode cX12_toldM 1 = .ok (.getfield 7, 3) := by decide +kernel
theorem dX12_toldM_4 : decode cX12_toldM 4 = .ok (.bipush 20, 2) := by decide +kernel
theorem dX12_toldM_6 : decode cX12_toldM 6 = .ok (.iconst 2, 1) := by decide +kernel
theorem dX12_toldM_7 : decode cX12_toldM 7 = .ok (.aload_n 0, 1) := by decide +kernel
theorem dX12_toldM_8 : decode cX12_toldM 8 = .ok (.getfield 244, 3) := by decide +kernel
theorem dX12_toldM_11 : decode cX12_toldM 11 = .ok (.imul, 1) := by decide +kernel
theorem dX12_toldM_12 : decode cX12_toldM 12 = .ok (.iadd, 1) := by decide +kernel
theorem dX12_toldM_13 : decode cX12_toldM 13 = .ok (.iconst 1, 1) := by decide +kernel
theorem dX12_toldM_14 : decode cX12_toldM 14 = .ok (.iadd, 1) := by decide +kernel
theorem dX12_toldM_15 : decode cX12_toldM 15 = .ok (.iaload, 1) := by decide +kernel
theorem dX12_toldM_16 : decode cX12_toldM 16 = .ok (.ireturn, 1) := by decide +kernel
theorem dX12_runs_0 : decode cX12_runs 0 = .ok (.iload_n 1, 1) := by decide +kernel
theorem dX12_runs_1 : decode cX12_runs 1 = .ok (.tableswitch 80 0 3 #[31, 80, 44, 62], 31) := by decide +kernel
theorem dX12_runs_32 : decode cX12_runs 32 = .ok (.aload_n 0, 1) := by decide +kernel
theorem dX12_runs_33 : decode cX12_runs 33 = .ok (.bipush 10, 2) := by decide +kernel
theorem dX12_runs_35 : decode cX12_runs 35 = .ok (.invokevirtual 247, 3) := by decide +kernel
theorem dX12_runs_38 : decode cX12_runs 38 = .ok (.iload_n 2, 1) := by decide +kernel
theorem dX12_runs_39 : decode cX12_runs 39 = .ok (.aload_n 0, 1) := by decide +kernel
theorem dX12_runs_40 : decode cX12_runs 40 = .ok (.getfield 244, 3) := by decide +kernel
theorem dX12_runs_43 : decode cX12_runs 43 = .ok (.iadd, 1) := by decide +kernel
theorem dX12_runs_44 : decode cX12_runs 44 = .ok (.ireturn, 1) := by decide +kernel
theorem dX12_runs_45 : decode cX12_runs 45 = .ok (.aload_n 0, 1) := by decide +kernel
theorem dX12_runs_46 : decode cX12_runs 46 = .ok (.bipush 30, 2) := by decide +kernel
theorem dX12_runs_48 : decode cX12_runs 48 = .ok (.invokevirtual 247, 3) := by decide +kernel
theorem dX12_runs_51 : decode cX12_runs 51 = .ok (.aload_n 0, 1) := by decide +kernel
theorem dX12_runs_52 : decode cX12_runs 52 = .ok (.iconst 2, 1) := by decide +kernel
theorem dX12_runs_53 : decode cX12_runs 53 = .ok (.invokestatic 250, 3) := by decide +kernel
theorem dX12_runs_56 : decode cX12_runs 56 = .ok (.iload_n 2, 1) := by decide +kernel
theorem dX12_runs_57 : decode cX12_runs 57 = .ok (.invokevirtual 253, 3) := by decide +kernel
theorem dX12_runs_60 : decode cX12_runs 60 = .ok (.iconst 3, 1) := by decide +kernel
theorem dX12_runs_61 : decode cX12_runs 61 = .ok (.imul, 1) := by decide +kernel
theorem dX12_runs_62 : decode cX12_runs 62 = .ok (.ireturn, 1) := by decide +kernel
theorem dX12_runs_63 : decode cX12_runs 63 = .ok (.aload_n 0, 1) := by decide +kernel
theorem dX12_runs_64 : decode cX12_runs 64 = .ok (.bipush 41, 2) := by decide +kernel
theorem dX12_runs_66 : decode cX12_runs 66 = .ok (.invokevirtual 247, 3) := by decide +kernel
theorem dX12_runs_69 : decode cX12_runs 69 = .ok (.aload_n 0, 1) := by decide +kernel
theorem dX12_runs_70 : decode cX12_runs 70 = .ok (.iconst 3, 1) := by decide +kernel
theorem dX12_runs_71 : decode cX12_runs 71 = .ok (.invokestatic 250, 3) := by decide +kernel
theorem dX12_runs_74 : decode cX12_runs 74 = .ok (.iload_n 2, 1) := by decide +kernel
theorem dX12_runs_75 : decode cX12_runs 75 = .ok (.iconst 1, 1) := by decide +kernel
theorem dX12_runs_76 : decode cX12_runs 76 = .ok (.iadd, 1) := by decide +kernel
theorem dX12_runs_77 : decode cX12_runs 77 = .ok (.invokevirtual 253, 3) := by decide +kernel
theorem dX12_runs_80 : decode cX12_runs 80 = .ok (.ireturn, 1) := by decide +kernel
theorem dX12_runs_81 : decode cX12_runs 81 = .ok (.aload_n 0, 1) := by decide +kernel
theorem dX12_runs_82 : decode cX12_runs 82 = .ok (.iload_n 1, 1) := by decide +kernel
theorem dX12_runs_83 : decode cX12_runs 83 = .ok (.invokestatic 250, 3) := by decide +kernel
theorem dX12_runs_86 : decode cX12_runs 86 = .ok (.iload_n 2, 1) := by decide +kernel
theorem dX12_runs_87 : decode cX12_runs 87 = .ok (.invokevirtual 253, 3) := by decide +kernel
theorem dX12_runs_90 : decode cX12_runs 90 = .ok (.ireturn, 1) := by decide +kernel
theorem dX12_chills_0 : decode cX12_chills 0 = .ok (.iload_n 1, 1) := by decide +kernel
theorem dX12_chills_1 : decode cX12_chills 1 = .ok (.lookupswitch 103 #[(0, 35), (1, 53), (6, 81)], 35) := by decide +kernel
theorem dX12_chills_36 : decode cX12_chills 36 = .ok (.aload_n 0, 1) := by decide +kernel
theorem dX12_chills_37 : decode cX12_chills 37 = .ok (.bipush 11, 2) := by decide +kernel
theorem dX12_chills_39 : decode cX12_chills 39 = .ok (.invokevirtual 247, 3) := by decide +kernel
theorem dX12_chills_42 : decode cX12_chills 42 = .ok (.aload_n 0, 1) := by decide +kernel
theorem dX12_chills_43 : decode cX12_chills 43 = .ok (.aload_n 0, 1) := by decide +kernel
theorem dX12_chills_44 : decode cX12_chills 44 = .ok (.invokevirtual 256, 3) := by decide +kernel
theorem dX12_chills_47 : decode cX12_chills 47 = .ok (.iload_n 2, 1) := by decide +kernel
theorem dX12_chills_48 : decode cX12_chills 48 = .ok (.invokevirtual 253, 3) := by decide +kernel
theorem dX12_chills_51 : decode cX12_chills 51 = .ok (.iconst 2, 1) := by decide +kernel
theorem dX12_chills_52 : decode cX12_chills 52 = .ok (.imul, 1) := by decide +kernel
theorem dX12_chills_53 : decode cX12_chills 53 = .ok (.ireturn, 1) := by decide +kernel
theorem dX12_chills_54 : decode cX12_chills 54 = .ok (.aload_n 0, 1) := by decide +kernel
theorem dX12_chills_55 : decode cX12_chills 55 = .ok (.bipush 20, 2) := by decide +kernel
theorem dX12_chills_57 : decode cX12_chills 57 = .ok (.invokevirtual 247, 3) := by decide +kernel
theorem dX12_chills_60 : decode cX12_chills 60 = .ok (.aload_n 0, 1) := by decide +kernel
theorem dX12_chills_61 : decode cX12_chills 61 = .ok (.iconst 1, 1) := by decide +kernel
theorem dX12_chills_62 : decode cX12_chills 62 = .ok (.invokestatic 250, 3) := by decide +kernel
theorem dX12_chills_65 : decode cX12_chills 65 = .ok (.iload_n 2, 1) := by decide +kernel
theorem dX12_chills_66 : decode cX12_chills 66 = .ok (.invokevirtual 259, 3) := by decide +kernel
theorem dX12_chills_69 : decode cX12_chills 69 = .ok (.istore_n 3, 1) := by decide +kernel
theorem dX12_chills_70 : decode cX12_chills 70 = .ok (.iload_n 3, 1) := by decide +kernel
theorem dX12_chills_71 : decode cX12_chills 71 = .ok (.aload_n 0, 1) := by decide +kernel
theorem dX12_chills_72 : decode cX12_chills 72 = .ok (.aload_n 0, 1) := by decide +kernel
theorem dX12_chills_73 : decode cX12_chills 73 = .ok (.invokevirtual 256, 3) := by decide +kernel
theorem dX12_chills_76 : decode cX12_chills 76 = .ok (.iconst 1, 1) := by decide +kernel
theorem dX12_chills_77 : decode cX12_chills 77 = .ok (.invokevirtual 262, 3) := by decide +kernel
theorem dX12_chills_80 : decode cX12_chills 80 = .ok (.isub, 1) := by decide +kernel
theorem dX12_chills_81 : decode cX12_chills 81 = .ok (.ireturn, 1) := by decide +kernel
theorem dX12_chills_82 : decode cX12_chills 82 = .ok (.aload_n 0, 1) := by decide +kernel
theorem dX12_chills_83 : decode cX12_chills 83 = .ok (.bipush 70, 2) := by decide +kernel
theorem dX12_chills_85 : decode cX12_chills 85 = .ok (.invokevirtual 247, 3) := by decide +kernel
theorem dX12_chills_88 : decode cX12_chills 88 = .ok (.aload_n 0, 1) := by decide +kernel
theorem dX12_chills_89 : decode cX12_chills 89 = .ok (.bipush 6, 2) := by decide +kernel
theorem dX12_chills_91 : decode cX12_chills 91 = .ok (.invokestatic 250, 3) := by decide +kernel
theorem dX12_chills_94 : decode cX12_chills 94 = .ok (.iload_n 2, 1) := by decide +kernel
theorem dX12_chills_95 : decode cX12_chills 95 = .ok (.invokevirtual 259, 3) := by decide +kernel
theorem dX12_chills_98 : decode cX12_chills 98 = .ok (.aload_n 0, 1) := by decide +kernel
theorem dX12_chills_99 : decode cX12_chills 99 = .ok (.invokevirtual 265, 3) := by decide +kernel
theorem dX12_chills_102 : decode cX12_chills 102 = .ok (.iadd, 1) := by decide +kernel
theorem dX12_chills_103 : decode cX12_chills 103 = .ok (.ireturn, 1) := by decide +kernel
theorem dX12_chills_104 : decode cX12_chills 104 = .ok (.aload_n 0, 1) := by decide +kernel
theorem dX12_chills_105 : decode cX12_chills 105 = .ok (.iload_n 1, 1) := by decide +kernel
theorem dX12_chills_106 : decode cX12_chills 106 = .ok (.invokestatic 250, 3) := by decide +kernel
theorem dX12_chills_109 : decode cX12_chills 109 = .ok (.iload_n 2, 1) := by decide +kernel
theorem dX12_chills_110 : decode cX12_chills 110 = .ok (.invokevirtual 259, 3) := by decide +kernel
theorem dX12_chills_113 : decode cX12_chills 113 = .ok (.ireturn, 1) := by decide +kernel
theorem dX12_moves_0 : decode cX12_moves 0 = .ok (.iload_n 1, 1) := by decide +kernel
theorem dX12_moves_1 : decode cX12_moves 1 = .ok (.lookupswitch 86 #[(0, 35), (3, 48), (5, 65)], 35) := by decide +kernel
theorem dX12_moves_36 : decode cX12_moves 36 = .ok (.aload_n 0, 1) := by decide +kernel
theorem dX12_moves_37 : decode cX12_moves 37 = .ok (.bipush 12, 2) := by decide +kernel
theorem dX12_moves_39 : decode cX12_moves 39 = .ok (.invokevirtual 247, 3) := by decide +kernel
theorem dX12_moves_42 : decode cX12_moves 42 = .ok (.iload_n 2, 1) := by decide +kernel
theorem dX12_moves_43 : decode cX12_moves 43 = .ok (.aload_n 0, 1) := by decide +kernel
theorem dX12_moves_44 : decode cX12_moves 44 = .ok (.invokevirtual 265, 3) := by decide +kernel
theorem dX12_moves_47 : decode cX12_moves 47 = .ok (.isub, 1) := by decide +kernel
theorem dX12_moves_48 : decode cX12_moves 48 = .ok (.ireturn, 1) := by decide +kernel
theorem dX12_moves_49 : decode cX12_moves 49 = .ok (.aload_n 0, 1) := by decide +kernel
theorem dX12_moves_50 : decode cX12_moves 50 = .ok (.bipush 40, 2) := by decide +kernel
theorem dX12_moves_52 : decode cX12_moves 52 = .ok (.invokevirtual 247, 3) := by decide +kernel
theorem dX12_moves_55 : decode cX12_moves 55 = .ok (.aload_n 0, 1) := by decide +kernel
theorem dX12_moves_56 : decode cX12_moves 56 = .ok (.iconst 3, 1) := by decide +kernel
theorem dX12_moves_57 : decode cX12_moves 57 = .ok (.invokestatic 250, 3) := by decide +kernel
theorem dX12_moves_60 : decode cX12_moves 60 = .ok (.iload_n 2, 1) := by decide +kernel
theorem dX12_moves_61 : decode cX12_moves 61 = .ok (.invokevirtual 262, 3) := by decide +kernel
theorem dX12_moves_64 : decode cX12_moves 64 = .ok (.ineg, 1) := by decide +kernel
theorem dX12_moves_65 : decode cX12_moves 65 = .ok (.ireturn, 1) := by decide +kernel
theorem dX12_moves_66 : decode cX12_moves 66 = .ok (.aload_n 0, 1) := by decide +kernel
theorem dX12_moves_67 : decode cX12_moves 67 = .ok (.bipush 60, 2) := by decide +kernel
theorem dX12_moves_69 : decode cX12_moves 69 = .ok (.invokevirtual 247, 3) := by decide +kernel
theorem dX12_moves_72 : decode cX12_moves 72 = .ok (.aload_n 0, 1) := by decide +kernel
theorem dX12_moves_73 : decode cX12_moves 73 = .ok (.iconst 5, 1) := by decide +kernel
theorem dX12_moves_74 : decode cX12_moves 74 = .ok (.invokestatic 250, 3) := by decide +kernel
theorem dX12_moves_77 : decode cX12_moves 77 = .ok (.iload_n 2, 1) := by decide +kernel
theorem dX12_moves_78 : decode cX12_moves 78 = .ok (.invokevirtual 262, 3) := by decide +kernel
theorem dX12_moves_81 : decode cX12_moves 81 = .ok (.aload_n 0, 1) := by decide +kernel
theorem dX12_moves_82 : decode cX12_moves 82 = .ok (.getfield 244, 3) := by decide +kernel
theorem dX12_moves_85 : decode cX12_moves 85 = .ok (.ixor, 1) := by decide +kernel
theorem dX12_moves_86 : decode cX12_moves 86 = .ok (.ireturn, 1) := by decide +kernel
theorem dX12_moves_87 : decode cX12_moves 87 = .ok (.aload_n 0, 1) := by decide +kernel
theorem dX12_moves_88 : decode cX12_moves 88 = .ok (.iload_n 1, 1) := by decide +kernel
theorem dX12_moves_89 : decode cX12_moves 89 = .ok (.invokestatic 250, 3) := by decide +kernel
theorem dX12_moves_92 : decode cX12_moves 92 = .ok (.iload_n 2, 1) := by decide +kernel
theorem dX12_moves_93 : decode cX12_moves 93 = .ok (.invokevirtual 262, 3) := by decide +kernel
theorem dX12_moves_96 : decode cX12_moves 96 = .ok (.ireturn, 1) := by decide +kernel
theorem dX12_tells_0 : decode cX12_tells 0 = .ok (.iload_n 1, 1) := by decide +kernel
theorem dX12_tells_1 : decode cX12_tells 1 = .ok (.lookupswitch 120 #[(0, 35), (4, 63), (6, 91)], 35) := by decide +kernel
theorem dX12_tells_36 : decode cX12_tells 36 = .ok (.aload_n 0, 1) := by decide +kernel
theorem dX12_tells_37 : decode cX12_tells 37 = .ok (.bipush 13, 2) := by decide +kernel
theorem dX12_tells_39 : decode cX12_tells 39 = .ok (.invokevirtual 247, 3) := by decide +kernel
theorem dX12_tells_42 : decode cX12_tells 42 = .ok (.aload_n 0, 1) := by decide +kernel
theorem dX12_tells_43 : decode cX12_tells 43 = .ok (.aload_n 0, 1) := by decide +kernel
theorem dX12_tells_44 : decode cX12_tells 44 = .ok (.invokevirtual 256, 3) := by decide +kernel
theorem dX12_tells_47 : decode cX12_tells 47 = .ok (.iload_n 2, 1) := by decide +kernel
theorem dX12_tells_48 : decode cX12_tells 48 = .ok (.invokevirtual 259, 3) := by decide +kernel
theorem dX12_tells_51 : decode cX12_tells 51 = .ok (.istore_n 3, 1) := by decide +kernel
theorem dX12_tells_52 : decode cX12_tells 52 = .ok (.iload_n 3, 1) := by decide +kernel
theorem dX12_tells_53 : decode cX12_tells 53 = .ok (.aload_n 0, 1) := by decide +kernel
theorem dX12_tells_54 : decode cX12_tells 54 = .ok (.aload_n 0, 1) := by decide +kernel
theorem dX12_tells_55 : decode cX12_tells 55 = .ok (.invokevirtual 256, 3) := by decide +kernel
theorem dX12_tells_58 : decode cX12_tells 58 = .ok (.iload_n 2, 1) := by decide +kernel
theorem dX12_tells_59 : decode cX12_tells 59 = .ok (.invokevirtual 262, 3) := by decide +kernel
theorem dX12_tells_62 : decode cX12_tells 62 = .ok (.ixor, 1) := by decide +kernel
theorem dX12_tells_63 : decode cX12_tells 63 = .ok (.ireturn, 1) := by decide +kernel
theorem dX12_tells_64 : decode cX12_tells 64 = .ok (.aload_n 0, 1) := by decide +kernel
theorem dX12_tells_65 : decode cX12_tells 65 = .ok (.bipush 50, 2) := by decide +kernel
theorem dX12_tells_67 : decode cX12_tells 67 = .ok (.invokevirtual 247, 3) := by decide +kernel
theorem dX12_tells_70 : decode cX12_tells 70 = .ok (.aload_n 0, 1) := by decide +kernel
theorem dX12_tells_71 : decode cX12_tells 71 = .ok (.iconst 4, 1) := by decide +kernel
theorem dX12_tells_72 : decode cX12_tells 72 = .ok (.invokestatic 250, 3) := by decide +kernel
theorem dX12_tells_75 : decode cX12_tells 75 = .ok (.iload_n 2, 1) := by decide +kernel
theorem dX12_tells_76 : decode cX12_tells 76 = .ok (.invokevirtual 268, 3) := by decide +kernel
theorem dX12_tells_79 : decode cX12_tells 79 = .ok (.istore_n 3, 1) := by decide +kernel
theorem dX12_tells_80 : decode cX12_tells 80 = .ok (.iload_n 3, 1) := by decide +kernel
theorem dX12_tells_81 : decode cX12_tells 81 = .ok (.aload_n 0, 1) := by decide +kernel
theorem dX12_tells_82 : decode cX12_tells 82 = .ok (.aload_n 0, 1) := by decide +kernel
theorem dX12_tells_83 : decode cX12_tells 83 = .ok (.invokevirtual 256, 3) := by decide +kernel
theorem dX12_tells_86 : decode cX12_tells 86 = .ok (.iconst 2, 1) := by decide +kernel
theorem dX12_tells_87 : decode cX12_tells 87 = .ok (.invokevirtual 253, 3) := by decide +kernel
theorem dX12_tells_90 : decode cX12_tells 90 = .ok (.isub, 1) := by decide +kernel
theorem dX12_tells_91 : decode cX12_tells 91 = .ok (.ireturn, 1) := by decide +kernel
theorem dX12_tells_92 : decode cX12_tells 92 = .ok (.aload_n 0, 1) := by decide +kernel
theorem dX12_tells_93 : decode cX12_tells 93 = .ok (.bipush 71, 2) := by decide +kernel
theorem dX12_tells_95 : decode cX12_tells 95 = .ok (.invokevirtual 247, 3) := by decide +kernel
theorem dX12_tells_98 : decode cX12_tells 98 = .ok (.aload_n 0, 1) := by decide +kernel
theorem dX12_tells_99 : decode cX12_tells 99 = .ok (.aload_n 0, 1) := by decide +kernel
theorem dX12_tells_100 : decode cX12_tells 100 = .ok (.invokevirtual 256, 3) := by decide +kernel
theorem dX12_tells_103 : decode cX12_tells 103 = .ok (.iload_n 2, 1) := by decide +kernel
theorem dX12_tells_104 : decode cX12_tells 104 = .ok (.invokevirtual 259, 3) := by decide +kernel
theorem dX12_tells_107 : decode cX12_tells 107 = .ok (.istore_n 3, 1) := by decide +kernel
theorem dX12_tells_108 : decode cX12_tells 108 = .ok (.iload_n 3, 1) := by decide +kernel
theorem dX12_tells_109 : decode cX12_tells 109 = .ok (.aload_n 0, 1) := by decide +kernel
theorem dX12_tells_110 : decode cX12_tells 110 = .ok (.bipush 6, 2) := by decide +kernel
theorem dX12_tells_112 : decode cX12_tells 112 = .ok (.invokestatic 250, 3) := by decide +kernel
theorem dX12_tells_115 : decode cX12_tells 115 = .ok (.iload_n 2, 1) := by decide +kernel
theorem dX12_tells_116 : decode cX12_tells 116 = .ok (.invokevirtual 268, 3) := by decide +kernel
theorem dX12_tells_119 : decode cX12_tells 119 = .ok (.isub, 1) := by decide +kernel
theorem dX12_tells_120 : decode cX12_tells 120 = .ok (.ireturn, 1) := by decide +kernel
theorem dX12_tells_121 : decode cX12_tells 121 = .ok (.aload_n 0, 1) := by decide +kernel
theorem dX12_tells_122 : decode cX12_tells 122 = .ok (.iload_n 1, 1) := by decide +kernel
theorem dX12_tells_123 : decode cX12_tells 123 = .ok (.invokestatic 250, 3) := by decide +kernel
theorem dX12_tells_126 : decode cX12_tells 126 = .ok (.iload_n 2, 1) := by decide +kernel
theorem dX12_tells_127 : decode cX12_tells 127 = .ok (.invokevirtual 268, 3) := by decide +kernel
theorem dX12_tells_130 : decode cX12_tells 130 = .ok (.ireturn, 1) := by decide +kernel
theorem dX12_voice_0 : decode cX12_voice 0 = .ok (.aload_n 0, 1) := by decide +kernel
theorem dX12_voice_1 : decode cX12_voice 1 = .ok (.iload_n 1, 1) := by decide +kernel
theorem dX12_voice_2 : decode cX12_voice 2 = .ok (.invokevirtual 92, 3) := by decide +kernel
theorem dX12_voice_5 : decode cX12_voice 5 = .ok (.ifCond .eq 15, 3) := by decide +kernel
theorem dX12_voice_8 : decode cX12_voice 8 = .ok (.iload_n 2, 1) := by decide +kernel
theorem dX12_voice_9 : decode cX12_voice 9 = .ok (.i2l, 1) := by decide +kernel
theorem dX12_voice_10 : decode cX12_voice 10 = .ok (.lconst 0, 1) := by decide +kernel
theorem dX12_voice_11 : decode cX12_voice 11 = .ok (.ldc2_w 271, 3) := by decide +kernel
theorem dX12_voice_14 : decode cX12_voice 14 = .ok (.invokestatic 51, 3) := by decide +kernel
theorem dX12_voice_17 : decode cX12_voice 17 = .ok (.ifCond .ne 9, 3) := by decide +kernel
theorem dX12_voice_20 : decode cX12_voice 20 = .ok (.aload_n 0, 1) := by decide +kernel
theorem dX12_voice_21 : decode cX12_voice 21 = .ok (.iconst 1, 1) := by decide +kernel
theorem dX12_voice_22 : decode cX12_voice 22 = .ok (.invokevirtual 61, 3) := by decide +kernel
theorem dX12_voice_25 : decode cX12_voice 25 = .ok (.ireturn, 1) := by decide +kernel
theorem dX12_voice_26 : decode cX12_voice 26 = .ok (.aload_n 0, 1) := by decide +kernel
theorem dX12_voice_27 : decode cX12_voice 27 = .ok (.iconst 0, 1) := by decide +kernel
theorem dX12_voice_28 : decode cX12_voice 28 = .ok (.putfield 241, 3) := by decide +kernel
theorem dX12_voice_31 : decode cX12_voice 31 = .ok (.aload_n 0, 1) := by decide +kernel
theorem dX12_voice_32 : decode cX12_voice 32 = .ok (.iload_n 1, 1) := by decide +kernel
theorem dX12_voice_33 : decode cX12_voice 33 = .ok (.putfield 244, 3) := by decide +kernel
theorem dX12_voice_36 : decode cX12_voice 36 = .ok (.aload_n 0, 1) := by decide +kernel
theorem dX12_voice_37 : decode cX12_voice 37 = .ok (.invokevirtual 256, 3) := by decide +kernel
theorem dX12_voice_40 : decode cX12_voice 40 = .ok (.istore 4, 2) := by decide +kernel
theorem dX12_voice_42 : decode cX12_voice 42 = .ok (.iload_n 2, 1) := by decide +kernel
theorem dX12_voice_43 : decode cX12_voice 43 = .ok (.ifCond .ne 13, 3) := by decide +kernel
theorem dX12_voice_46 : decode cX12_voice 46 = .ok (.aload_n 0, 1) := by decide +kernel
theorem dX12_voice_47 : decode cX12_voice 47 = .ok (.iload 4, 2) := by decide +kernel
theorem dX12_voice_49 : decode cX12_voice 49 = .ok (.iload_n 3, 1) := by decide +kernel
theorem dX12_voice_50 : decode cX12_voice 50 = .ok (.invokevirtual 253, 3) := by decide +kernel
theorem dX12_voice_53 : decode cX12_voice 53 = .ok (.goto 40, 3) := by decide +kernel
theorem dX12_voice_56 : decode cX12_voice 56 = .ok (.iload_n 2, 1) := by decide +kernel
theorem dX12_voice_57 : decode cX12_voice 57 = .ok (.iconst 1, 1) := by decide +kernel
theorem dX12_voice_58 : decode cX12_voice 58 = .ok (.if_icmp .ne 13, 3) := by decide +kernel
theorem dX12_voice_61 : decode cX12_voice 61 = .ok (.aload_n 0, 1) := by decide +kernel
theorem dX12_voice_62 : decode cX12_voice 62 = .ok (.iload 4, 2) := by decide +kernel
theorem dX12_voice_64 : decode cX12_voice 64 = .ok (.iload_n 3, 1) := by decide +kernel
theorem dX12_voice_65 : decode cX12_voice 65 = .ok (.invokevirtual 259, 3) := by decide +kernel
theorem dX12_voice_68 : decode cX12_voice 68 = .ok (.goto 25, 3) := by decide +kernel
theorem dX12_voice_71 : decode cX12_voice 71 = .ok (.iload_n 2, 1) := by decide +kernel
theorem dX12_voice_72 : decode cX12_voice 72 = .ok (.iconst 2, 1) := by decide +kernel
theorem dX12_voice_73 : decode cX12_voice 73 = .ok (.if_icmp .ne 13, 3) := by decide +kernel
theorem dX12_voice_76 : decode cX12_voice 76 = .ok (.aload_n 0, 1) := by decide +kernel
theorem dX12_voice_77 : decode cX12_voice 77 = .ok (.iload 4, 2) := by decide +kernel
theorem dX12_voice_79 : decode cX12_voice 79 = .ok (.iload_n 3, 1) := by decide +kernel
theorem dX12_voice_80 : decode cX12_voice 80 = .ok (.invokevirtual 262, 3) := by decide +kernel
theorem dX12_voice_83 : decode cX12_voice 83 = .ok (.goto 10, 3) := by decide +kernel
theorem dX12_voice_86 : decode cX12_voice 86 = .ok (.aload_n 0, 1) := by decide +kernel
theorem dX12_voice_87 : decode cX12_voice 87 = .ok (.iload 4, 2) := by decide +kernel
theorem dX12_voice_89 : decode cX12_voice 89 = .ok (.iload_n 3, 1) := by decide +kernel
theorem dX12_voice_90 : decode cX12_voice 90 = .ok (.invokevirtual 268, 3) := by decide +kernel
theorem dX12_voice_93 : decode cX12_voice 93 = .ok (.ireturn, 1) := by decide +kernel
theorem dX12_trace_0 : decode cX12_trace 0 = .ok (.iload_n 1, 1) := by decide +kernel
theorem dX12_trace_1 : decode cX12_trace 1 = .ok (.i2l, 1) := by decide +kernel
theorem dX12_trace_2 : decode cX12_trace 2 = .ok (.lconst 0, 1) := by decide +kernel
theorem dX12_trace_3 : decode cX12_trace 3 = .ok (.aload_n 0, 1) := by decide +kernel
theorem dX12_trace_4 : decode cX12_trace 4 = .ok (.getfield 241, 3) := by decide +kernel
theorem dX12_trace_7 : decode cX12_trace 7 = .ok (.iconst 1, 1) := by decide +kernel
theorem dX12_trace_8 : decode cX12_trace 8 = .ok (.isub, 1) := by decide +kernel
theorem dX12_trace_9 : decode cX12_trace 9 = .ok (.i2l, 1) := by decide +kernel
theorem dX12_trace_10 : decode cX12_trace 10 = .ok (.invokestatic 51, 3) := by decide +kernel
theorem dX12_trace_13 : decode cX12_trace 13 = .ok (.ifCond .eq 12, 3) := by decide +kernel
theorem dX12_trace_16 : decode cX12_trace 16 = .ok (.aload_n 0, 1) := by decide +kernel
theorem dX12_trace_17 : decode cX12_trace 17 = .ok (.getfield 34, 3) := by decide +kernel
theorem dX12_trace_20 : decode cX12_trace 20 = .ok (.iload_n 1, 1) := by decide +kernel
theorem dX12_trace_21 : decode cX12_trace 21 = .ok (.iaload, 1) := by decide +kernel
theorem dX12_trace_22 : decode cX12_trace 22 = .ok (.goto 8, 3) := by decide +kernel
theorem dX12_trace_25 : decode cX12_trace 25 = .ok (.aload_n 0, 1) := by decide +kernel
theorem dX12_trace_26 : decode cX12_trace 26 = .ok (.iconst 2, 1) := by decide +kernel
theorem dX12_trace_27 : decode cX12_trace 27 = .ok (.invokevirtual 61, 3) := by decide +kernel
theorem dX12_trace_30 : decode cX12_trace 30 = .ok (.ireturn, 1) := by decide +kernel
theorem dX12_isSheet_0 : decode cX12_isSheet 0 = .ok (.iload_n 0, 1) := by decide +kernel
theorem dX12_isSheet_1 : decode cX12_isSheet 1 = .ok (.i2l, 1) := by decide +kernel
theorem dX12_isSheet_2 : decode cX12_isSheet 2 = .ok (.lconst 0, 1) := by decide +kernel
theorem dX12_isSheet_3 : decode cX12_isSheet 3 = .ok (.ldc2_w 271, 3) := by decide +kernel
theorem dX12_isSheet_6 : decode cX12_isSheet 6 = .ok (.invokestatic 51, 3) := by decide +kernel
theorem dX12_isSheet_9 : decode cX12_isSheet 9 = .ok (.ireturn, 1) := by decide +kernel
theorem dX12_sheet_0 : decode cX12_sheet 0 = .ok (.iload_n 1, 1) := by decide +kernel
theorem dX12_sheet_1 : decode cX12_sheet 1 = .ok (.invokestatic 73, 3) := by decide +kernel
theorem dX12_sheet_4 : decode cX12_sheet 4 = .ok (.ifCond .eq 25, 3) := by decide +kernel
theorem dX12_sheet_7 : decode cX12_sheet 7 = .ok (.iload_n 2, 1) := by decide +kernel
theorem dX12_sheet_8 : decode cX12_sheet 8 = .ok (.ifCond .eq 27, 3) := by decide +kernel
theorem dX12_sheet_11 : decode cX12_sheet 11 = .ok (.iload_n 2, 1) := by decide +kernel
theorem dX12_sheet_12 : decode cX12_sheet 12 = .ok (.bipush 8, 2) := by decide +kernel
theorem dX12_sheet_14 : decode cX12_sheet 14 = .ok (.if_icmp .eq 21, 3) := by decide +kernel
theorem dX12_sheet_17 : decode cX12_sheet 17 = .ok (.iload_n 2, 1) := by decide +kernel
theorem dX12_sheet_18 : decode cX12_sheet 18 = .ok (.bipush 16, 2) := by decide +kernel
theorem dX12_sheet_20 : decode cX12_sheet 20 = .ok (.if_icmp .eq 15, 3) := by decide +kernel
theorem dX12_sheet_23 : decode cX12_sheet 23 = .ok (.iload_n 2, 1) := by decide +kernel
theorem dX12_sheet_24 : decode cX12_sheet 24 = .ok (.bipush 32, 2) := by decide +kernel
theorem dX12_sheet_26 : decode cX12_sheet 26 = .ok (.if_icmp .eq 9, 3) := by decide +kernel
theorem dX12_sheet_29 : decode cX12_sheet 29 = .ok (.aload_n 0, 1) := by decide +kernel
theorem dX12_sheet_30 : decode cX12_sheet 30 = .ok (.iconst 1, 1) := by decide +kernel
theorem dX12_sheet_31 : decode cX12_sheet 31 = .ok (.invokevirtual 61, 3) := by decide +kernel
theorem dX12_sheet_34 : decode cX12_sheet 34 = .ok (.ireturn, 1) := by decide +kernel
theorem dX12_sheet_35 : decode cX12_sheet 35 = .ok (.iload_n 2, 1) := by decide +kernel
theorem dX12_sheet_36 : decode cX12_sheet 36 = .ok (.ifCond .eq 13, 3) := by decide +kernel
theorem dX12_sheet_39 : decode cX12_sheet 39 = .ok (.iload_n 3, 1) := by decide +kernel
theorem dX12_sheet_40 : decode cX12_sheet 40 = .ok (.ifCond .ge 9, 3) := by decide +kernel
theorem dX12_sheet_43 : decode cX12_sheet 43 = .ok (.aload_n 0, 1) := by decide +kernel
theorem dX12_sheet_44 : decode cX12_sheet 44 = .ok (.iconst 3, 1) := by decide +kernel
theorem dX12_sheet_45 : decode cX12_sheet 45 = .ok (.invokevirtual 61, 3) := by decide +kernel
theorem dX12_sheet_48 : decode cX12_sheet 48 = .ok (.ireturn, 1) := by decide +kernel
theorem dX12_sheet_49 : decode cX12_sheet 49 = .ok (.iload_n 2, 1) := by decide +kernel
theorem dX12_sheet_50 : decode cX12_sheet 50 = .ok (.ifCond .eq 15, 3) := by decide +kernel
theorem dX12_sheet_53 : decode cX12_sheet 53 = .ok (.iload_n 3, 1) := by decide +kernel
theorem dX12_sheet_54 : decode cX12_sheet 54 = .ok (.bipush 40, 2) := by decide +kernel
theorem dX12_sheet_56 : decode cX12_sheet 56 = .ok (.if_icmp .le 9, 3) := by decide +kernel
theorem dX12_sheet_59 : decode cX12_sheet 59 = .ok (.aload_n 0, 1) := by decide +kernel
theorem dX12_sheet_60 : decode cX12_sheet 60 = .ok (.iconst 1, 1) := by decide +kernel
theorem dX12_sheet_61 : decode cX12_sheet 61 = .ok (.invokevirtual 61, 3) := by decide +kernel
theorem dX12_sheet_64 : decode cX12_sheet 64 = .ok (.ireturn, 1) := by decide +kernel
theorem dX12_sheet_65 : decode cX12_sheet 65 = .ok (.aload_n 0, 1) := by decide +kernel
theorem dX12_sheet_66 : decode cX12_sheet 66 = .ok (.getfield 37, 3) := by decide +kernel
theorem dX12_sheet_69 : decode cX12_sheet 69 = .ok (.iload_n 1, 1) := by decide +kernel
theorem dX12_sheet_70 : decode cX12_sheet 70 = .ok (.iload_n 2, 1) := by decide +kernel
theorem dX12_sheet_71 : decode cX12_sheet 71 = .ok (.iastore, 1) := by decide +kernel
theorem dX12_sheet_72 : decode cX12_sheet 72 = .ok (.aload_n 0, 1) := by decide +kernel
theorem dX12_sheet_73 : decode cX12_sheet 73 = .ok (.getfield 40, 3) := by decide +kernel
theorem dX12_sheet_76 : decode cX12_sheet 76 = .ok (.iload_n 1, 1) := by decide +kernel
theorem dX12_sheet_77 : decode cX12_sheet 77 = .ok (.iload_n 2, 1) := by decide +kernel
theorem dX12_sheet_78 : decode cX12_sheet 78 = .ok (.ifCond .ne 7, 3) := by decide +kernel
theorem dX12_sheet_81 : decode cX12_sheet 81 = .ok (.iconst 0, 1) := by decide +kernel
theorem dX12_sheet_82 : decode cX12_sheet 82 = .ok (.goto 4, 3) := by decide +kernel
theorem dX12_sheet_85 : decode cX12_sheet 85 = .ok (.iload_n 3, 1) := by decide +kernel
theorem dX12_sheet_86 : decode cX12_sheet 86 = .ok (.iastore, 1) := by decide +kernel
theorem dX12_sheet_87 : decode cX12_sheet 87 = .ok (.iconst 0, 1) := by decide +kernel
theorem dX12_sheet_88 : decode cX12_sheet 88 = .ok (.istore 4, 2) := by decide +kernel
theorem dX12_sheet_90 : decode cX12_sheet 90 = .ok (.iload 4, 2) := by decide +kernel
theorem dX12_sheet_92 : decode cX12_sheet 92 = .ok (.bipush 40, 2) := by decide +kernel
theorem dX12_sheet_94 : decode cX12_sheet 94 = .ok (.if_icmp .ge 22, 3) := by decide +kernel
theorem dX12_sheet_97 : decode cX12_sheet 97 = .ok (.aload_n 0, 1) := by decide +kernel
theorem dX12_sheet_98 : decode cX12_sheet 98 = .ok (.getfield 43, 3) := by decide +kernel
theorem dX12_sheet_101 : decode cX12_sheet 101 = .ok (.bipush 40, 2) := by decide +kernel
theorem dX12_sheet_103 : decode cX12_sheet 103 = .ok (.iload_n 1, 1) := by decide +kernel
theorem dX12_sheet_104 : decode cX12_sheet 104 = .ok (.imul, 1) := by decide +kernel
theorem dX12_sheet_105 : decode cX12_sheet 105 = .ok (.iload 4, 2) := by decide +kernel
theorem dX12_sheet_107 : decode cX12_sheet 107 = .ok (.iadd, 1) := by decide +kernel
theorem dX12_sheet_108 : decode cX12_sheet 108 = .ok (.iconst 0, 1) := by decide +kernel
theorem dX12_sheet_109 : decode cX12_sheet 109 = .ok (.iastore, 1) := by decide +kernel
theorem dX12_sheet_110 : decode cX12_sheet 110 = .ok (.iinc 4 1, 3) := by decide +kernel
theorem dX12_sheet_113 : decode cX12_sheet 113 = .ok (.goto (-23), 3) := by decide +kernel
theorem dX12_sheet_116 : decode cX12_sheet 116 = .ok (.iconst 1, 1) := by decide +kernel
theorem dX12_sheet_117 : decode cX12_sheet 117 = .ok (.ireturn, 1) := by decide +kernel
theorem dX12_put_0 : decode cX12_put 0 = .ok (.iload_n 1, 1) := by decide +kernel
theorem dX12_put_1 : decode cX12_put 1 = .ok (.invokestatic 73, 3) := by decide +kernel
theorem dX12_put_4 : decode cX12_put 4 = .ok (.ifCond .ne 9, 3) := by decide +kernel
theorem dX12_put_7 : decode cX12_put 7 = .ok (.aload_n 0, 1) := by decide +kernel
theorem dX12_put_8 : decode cX12_put 8 = .ok (.iconst 1, 1) := by decide +kernel
theorem dX12_put_9 : decode cX12_put 9 = .ok (.invokevirtual 61, 3) := by decide +kernel
theorem dX12_put_12 : decode cX12_put 12 = .ok (.ireturn, 1) := by decide +kernel
theorem dX12_put_13 : decode cX12_put 13 = .ok (.aload_n 0, 1) := by decide +kernel
theorem dX12_put_14 : decode cX12_put 14 = .ok (.getfield 37, 3) := by decide +kernel
theorem dX12_put_17 : decode cX12_put 17 = .ok (.iload_n 1, 1) := by decide +kernel
theorem dX12_put_18 : decode cX12_put 18 = .ok (.iaload, 1) := by decide +kernel
theorem dX12_put_19 : decode cX12_put 19 = .ok (.ifCond .ne 9, 3) := by decide +kernel
theorem dX12_put_22 : decode cX12_put 22 = .ok (.aload_n 0, 1) := by decide +kernel
theorem dX12_put_23 : decode cX12_put 23 = .ok (.iconst 2, 1) := by decide +kernel
theorem dX12_put_24 : decode cX12_put 24 = .ok (.invokevirtual 61, 3) := by decide +kernel
theorem dX12_put_27 : decode cX12_put 27 = .ok (.ireturn, 1) := by decide +kernel
theorem dX12_put_28 : decode cX12_put 28 = .ok (.iload_n 2, 1) := by decide +kernel
theorem dX12_put_29 : decode cX12_put 29 = .ok (.i2l, 1) := by decide +kernel
theorem dX12_put_30 : decode cX12_put 30 = .ok (.lconst 0, 1) := by decide +kernel
theorem dX12_put_31 : decode cX12_put 31 = .ok (.aload_n 0, 1) := by decide +kernel
theorem dX12_put_32 : decode cX12_put 32 = .ok (.getfield 40, 3) := by decide +kernel
theorem dX12_put_35 : decode cX12_put 35 = .ok (.iload_n 1, 1) := by decide +kernel
theorem dX12_put_36 : decode cX12_put 36 = .ok (.iaload, 1) := by decide +kernel
theorem dX12_put_37 : decode cX12_put 37 = .ok (.iconst 1, 1) := by decide +kernel
theorem dX12_put_38 : decode cX12_put 38 = .ok (.isub, 1) := by decide +kernel
theorem dX12_put_39 : decode cX12_put 39 = .ok (.i2l, 1) := by decide +kernel
theorem dX12_put_40 : decode cX12_put 40 = .ok (.invokestatic 51, 3) := by decide +kernel
theorem dX12_put_43 : decode cX12_put 43 = .ok (.ifCond .ne 9, 3) := by decide +kernel
theorem dX12_put_46 : decode cX12_put 46 = .ok (.aload_n 0, 1) := by decide +kernel
theorem dX12_put_47 : decode cX12_put 47 = .ok (.iconst 1, 1) := by decide +kernel
theorem dX12_put_48 : decode cX12_put 48 = .ok (.invokevirtual 61, 3) := by decide +kernel
theorem dX12_put_51 : decode cX12_put 51 = .ok (.ireturn, 1) := by decide +kernel
theorem dX12_put_52 : decode cX12_put 52 = .ok (.aload_n 0, 1) := by decide +kernel
theorem dX12_put_53 : decode cX12_put 53 = .ok (.getfield 43, 3) := by decide +kernel
theorem dX12_put_56 : decode cX12_put 56 = .ok (.bipush 40, 2) := by decide +kernel
theorem dX12_put_58 : decode cX12_put 58 = .ok (.iload_n 1, 1) := by decide +kernel
theorem dX12_put_59 : decode cX12_put 59 = .ok (.imul, 1) := by decide +kernel
theorem dX12_put_60 : decode cX12_put 60 = .ok (.iload_n 2, 1) := by decide +kernel
theorem dX12_put_61 : decode cX12_put 61 = .ok (.iadd, 1) := by decide +kernel
theorem dX12_put_62 : decode cX12_put 62 = .ok (.aload_n 0, 1) := by decide +kernel
theorem dX12_put_63 : decode cX12_put 63 = .ok (.getfield 37, 3) := by decide +kernel
theorem dX12_put_66 : decode cX12_put 66 = .ok (.iload_n 1, 1) := by decide +kernel
theorem dX12_put_67 : decode cX12_put 67 = .ok (.iaload, 1) := by decide +kernel
theorem dX12_put_68 : decode cX12_put 68 = .ok (.bipush 8, 2) := by decide +kernel
theorem dX12_put_70 : decode cX12_put 70 = .ok (.if_icmp .ne 8, 3) := by decide +kernel
theorem dX12_put_73 : decode cX12_put 73 = .ok (.iload_n 3, 1) := by decide +kernel
theorem dX12_put_74 : decode cX12_put 74 = .ok (.i2b, 1) := by decide +kernel
theorem dX12_put_75 : decode cX12_put 75 = .ok (.goto 20, 3) := by decide +kernel
theorem dX12_put_78 : decode cX12_put 78 = .ok (.aload_n 0, 1) := by decide +kernel
theorem dX12_put_79 : decode cX12_put 79 = .ok (.getfield 37, 3) := by decide +kernel
theorem dX12_put_82 : decode cX12_put 82 = .ok (.iload_n 1, 1) := by decide +kernel
theorem dX12_put_83 : decode cX12_put 83 = .ok (.iaload, 1) := by decide +kernel
theorem dX12_put_84 : decode cX12_put 84 = .ok (.bipush 16, 2) := by decide +kernel
theorem dX12_put_86 : decode cX12_put 86 = .ok (.if_icmp .ne 8, 3) := by decide +kernel
theorem dX12_put_89 : decode cX12_put 89 = .ok (.iload_n 3, 1) := by decide +kernel
theorem dX12_put_90 : decode cX12_put 90 = .ok (.i2s, 1) := by decide +kernel
theorem dX12_put_91 : decode cX12_put 91 = .ok (.goto 4, 3) := by decide +kernel
theorem dX12_put_94 : decode cX12_put 94 = .ok (.iload_n 3, 1) := by decide +kernel
theorem dX12_put_95 : decode cX12_put 95 = .ok (.iastore, 1) := by decide +kernel
theorem dX12_put_96 : decode cX12_put 96 = .ok (.iconst 1, 1) := by decide +kernel
theorem dX12_put_97 : decode cX12_put 97 = .ok (.ireturn, 1) := by decide +kernel
theorem dX12_move_0 : decode cX12_move 0 = .ok (.iload_n 1, 1) := by decide +kernel
theorem dX12_move_1 : decode cX12_move 1 = .ok (.invokestatic 73, 3) := by decide +kernel
theorem dX12_move_4 : decode cX12_move 4 = .ok (.ifCond .eq 10, 3) := by decide +kernel
theorem dX12_move_7 : decode cX12_move 7 = .ok (.iload_n 3, 1) := by decide +kernel
theorem dX12_move_8 : decode cX12_move 8 = .ok (.invokestatic 73, 3) := by decide +kernel
theorem dX12_move_11 : decode cX12_move 11 = .ok (.ifCond .ne 9, 3) := by decide +kernel
theorem dX12_move_14 : decode cX12_move 14 = .ok (.aload_n 0, 1) := by decide +kernel
theorem dX12_move_15 : decode cX12_move 15 = .ok (.iconst 1, 1) := by decide +kernel
theorem dX12_move_16 : decode cX12_move 16 = .ok (.invokevirtual 61, 3) := by decide +kernel
theorem dX12_move_19 : decode cX12_move 19 = .ok (.ireturn, 1) := by decide +kernel
theorem dX12_move_20 : decode cX12_move 20 = .ok (.aload_n 0, 1) := by decide +kernel
theorem dX12_move_21 : decode cX12_move 21 = .ok (.getfield 37, 3) := by decide +kernel
theorem dX12_move_24 : decode cX12_move 24 = .ok (.iload_n 1, 1) := by decide +kernel
theorem dX12_move_25 : decode cX12_move 25 = .ok (.iaload, 1) := by decide +kernel
theorem dX12_move_26 : decode cX12_move 26 = .ok (.ifCond .eq 12, 3) := by decide +kernel
theorem dX12_move_29 : decode cX12_move 29 = .ok (.aload_n 0, 1) := by decide +kernel
theorem dX12_move_30 : decode cX12_move 30 = .ok (.getfield 37, 3) := by decide +kernel
theorem dX12_move_33 : decode cX12_move 33 = .ok (.iload_n 3, 1) := by decide +kernel
theorem dX12_move_34 : decode cX12_move 34 = .ok (.iaload, 1) := by decide +kernel
theorem dX12_move_35 : decode cX12_move 35 = .ok (.ifCond .ne 9, 3) := by decide +kernel
theorem dX12_move_38 : decode cX12_move 38 = .ok (.aload_n 0, 1) := by decide +kernel
theorem dX12_move_39 : decode cX12_move 39 = .ok (.iconst 2, 1) := by decide +kernel
theorem dX12_move_40 : decode cX12_move 40 = .ok (.invokevirtual 61, 3) := by decide +kernel
theorem dX12_move_43 : decode cX12_move 43 = .ok (.ireturn, 1) := by decide +kernel
theorem dX12_move_44 : decode cX12_move 44 = .ok (.aload_n 0, 1) := by decide +kernel
theorem dX12_move_45 : decode cX12_move 45 = .ok (.getfield 37, 3) := by decide +kernel
theorem dX12_move_48 : decode cX12_move 48 = .ok (.iload_n 1, 1) := by decide +kernel
theorem dX12_move_49 : decode cX12_move 49 = .ok (.iaload, 1) := by decide +kernel
theorem dX12_move_50 : decode cX12_move 50 = .ok (.aload_n 0, 1) := by decide +kernel
theorem dX12_move_51 : decode cX12_move 51 = .ok (.getfield 37, 3) := by decide +kernel
theorem dX12_move_54 : decode cX12_move 54 = .ok (.iload_n 3, 1) := by decide +kernel
theorem dX12_move_55 : decode cX12_move 55 = .ok (.iaload, 1) := by decide +kernel
theorem dX12_move_56 : decode cX12_move 56 = .ok (.if_icmp .eq 9, 3) := by decide +kernel
theorem dX12_move_59 : decode cX12_move 59 = .ok (.aload_n 0, 1) := by decide +kernel
theorem dX12_move_60 : decode cX12_move 60 = .ok (.iconst 5, 1) := by decide +kernel
theorem dX12_move_61 : decode cX12_move 61 = .ok (.invokevirtual 61, 3) := by decide +kernel
theorem dX12_move_64 : decode cX12_move 64 = .ok (.ireturn, 1) := by decide +kernel
theorem dX12_move_65 : decode cX12_move 65 = .ok (.iload 5, 2) := by decide +kernel
theorem dX12_move_67 : decode cX12_move 67 = .ok (.ifCond .lt 39, 3) := by decide +kernel
theorem dX12_move_70 : decode cX12_move 70 = .ok (.iload_n 2, 1) := by decide +kernel
theorem dX12_move_71 : decode cX12_move 71 = .ok (.ifCond .lt 35, 3) := by decide +kernel
theorem dX12_move_74 : decode cX12_move 74 = .ok (.iload 4, 2) := by decide +kernel
theorem dX12_move_76 : decode cX12_move 76 = .ok (.ifCond .lt 30, 3) := by decide +kernel
theorem dX12_move_79 : decode cX12_move 79 = .ok (.iload 5, 2) := by decide +kernel
theorem dX12_move_81 : decode cX12_move 81 = .ok (.aload_n 0, 1) := by decide +kernel
theorem dX12_move_82 : decode cX12_move 82 = .ok (.getfield 40, 3) := by decide +kernel
theorem dX12_move_85 : decode cX12_move 85 = .ok (.iload_n 1, 1) := by decide +kernel
theorem dX12_move_86 : decode cX12_move 86 = .ok (.iaload, 1) := by decide +kernel
theorem dX12_move_87 : decode cX12_move 87 = .ok (.iload_n 2, 1) := by decide +kernel
theorem dX12_move_88 : decode cX12_move 88 = .ok (.isub, 1) := by decide +kernel
theorem dX12_move_89 : decode cX12_move 89 = .ok (.if_icmp .gt 17, 3) := by decide +kernel
theorem dX12_move_92 : decode cX12_move 92 = .ok (.iload 5, 2) := by decide +kernel
theorem dX12_move_94 : decode cX12_move 94 = .ok (.aload_n 0, 1) := by decide +kernel
theorem dX12_move_95 : decode cX12_move 95 = .ok (.getfield 40, 3) := by decide +kernel
theorem dX12_move_98 : decode cX12_move 98 = .ok (.iload_n 3, 1) := by decide +kernel
theorem dX12_move_99 : decode cX12_move 99 = .ok (.iaload, 1) := by decide +kernel
theorem dX12_move_100 : decode cX12_move 100 = .ok (.iload 4, 2) := by decide +kernel
theorem dX12_move_102 : decode cX12_move 102 = .ok (.isub, 1) := by decide +kernel
theorem dX12_move_103 : decode cX12_move 103 = .ok (.if_icmp .le 9, 3) := by decide +kernel
theorem dX12_move_106 : decode cX12_move 106 = .ok (.aload_n 0, 1) := by decide +kernel
theorem dX12_move_107 : decode cX12_move 107 = .ok (.iconst 1, 1) := by decide +kernel
theorem dX12_move_108 : decode cX12_move 108 = .ok (.invokevirtual 61, 3) := by decide +kernel
theorem dX12_move_111 : decode cX12_move 111 = .ok (.ireturn, 1) := by decide +kernel
theorem dX12_move_112 : decode cX12_move 112 = .ok (.iconst 0, 1) := by decide +kernel
theorem dX12_move_113 : decode cX12_move 113 = .ok (.istore 6, 2) := by decide +kernel
theorem dX12_move_115 : decode cX12_move 115 = .ok (.iload 6, 2) := by decide +kernel
theorem dX12_move_117 : decode cX12_move 117 = .ok (.iload 5, 2) := by decide +kernel
theorem dX12_move_119 : decode cX12_move 119 = .ok (.if_icmp .ge 30, 3) := by decide +kernel
theorem dX12_move_122 : decode cX12_move 122 = .ok (.aload_n 0, 1) := by decide +kernel
theorem dX12_move_123 : decode cX12_move 123 = .ok (.getfield 46, 3) := by decide +kernel
theorem dX12_move_126 : decode cX12_move 126 = .ok (.iload 6, 2) := by decide +kernel
theorem dX12_move_128 : decode cX12_move 128 = .ok (.aload_n 0, 1) := by decide +kernel
theorem dX12_move_129 : decode cX12_move 129 = .ok (.getfield 43, 3) := by decide +kernel
theorem dX12_move_132 : decode cX12_move 132 = .ok (.bipush 40, 2) := by decide +kernel
theorem dX12_move_134 : decode cX12_move 134 = .ok (.iload_n 1, 1) := by decide +kernel
theorem dX12_move_135 : decode cX12_move 135 = .ok (.imul, 1) := by decide +kernel
theorem dX12_move_136 : decode cX12_move 136 = .ok (.iload_n 2, 1) := by decide +kernel
theorem dX12_move_137 : decode cX12_move 137 = .ok (.iadd, 1) := by decide +kernel
theorem dX12_move_138 : decode cX12_move 138 = .ok (.iload 6, 2) := by decide +kernel
theorem dX12_move_140 : decode cX12_move 140 = .ok (.iadd, 1) := by decide +kernel
theorem dX12_move_141 : decode cX12_move 141 = .ok (.iaload, 1) := by decide +kernel
theorem dX12_move_142 : decode cX12_move 142 = .ok (.iastore, 1) := by decide +kernel
theorem dX12_move_143 : decode cX12_move 143 = .ok (.iinc 6 1, 3) := by decide +kernel
theorem dX12_move_146 : decode cX12_move 146 = .ok (.goto (-31), 3) := by decide +kernel
theorem dX12_move_149 : decode cX12_move 149 = .ok (.iconst 0, 1) := by decide +kernel
theorem dX12_move_150 : decode cX12_move 150 = .ok (.istore 6, 2) := by decide +kernel
theorem dX12_move_152 : decode cX12_move 152 = .ok (.iload 6, 2) := by decide +kernel
theorem dX12_move_154 : decode cX12_move 154 = .ok (.iload 5, 2) := by decide +kernel
theorem dX12_move_156 : decode cX12_move 156 = .ok (.if_icmp .ge 31, 3) := by decide +kernel
theorem dX12_move_159 : decode cX12_move 159 = .ok (.aload_n 0, 1) := by decide +kernel
theorem dX12_move_160 : decode cX12_move 160 = .ok (.getfield 43, 3) := by decide +kernel
theorem dX12_move_163 : decode cX12_move 163 = .ok (.bipush 40, 2) := by decide +kernel
theorem dX12_move_165 : decode cX12_move 165 = .ok (.iload_n 3, 1) := by decide +kernel
theorem dX12_move_166 : decode cX12_move 166 = .ok (.imul, 1) := by decide +kernel
theorem dX12_move_167 : decode cX12_move 167 = .ok (.iload 4, 2) := by decide +kernel
theorem dX12_move_169 : decode cX12_move 169 = .ok (.iadd, 1) := by decide +kernel
theorem dX12_move_170 : decode cX12_move 170 = .ok (.iload 6, 2) := by decide +kernel
theorem dX12_move_172 : decode cX12_move 172 = .ok (.iadd, 1) := by decide +kernel
theorem dX12_move_173 : decode cX12_move 173 = .ok (.aload_n 0, 1) := by decide +kernel
theorem dX12_move_174 : decode cX12_move 174 = .ok (.getfield 46, 3) := by decide +kernel
theorem dX12_move_177 : decode cX12_move 177 = .ok (.iload 6, 2) := by decide +kernel
theorem dX12_move_179 : decode cX12_move 179 = .ok (.iaload, 1) := by decide +kernel
theorem dX12_move_180 : decode cX12_move 180 = .ok (.iastore, 1) := by decide +kernel
theorem dX12_move_181 : decode cX12_move 181 = .ok (.iinc 6 1, 3) := by decide +kernel
theorem dX12_move_184 : decode cX12_move 184 = .ok (.goto (-32), 3) := by decide +kernel
theorem dX12_move_187 : decode cX12_move 187 = .ok (.iload 5, 2) := by decide +kernel
theorem dX12_move_189 : decode cX12_move 189 = .ok (.ireturn, 1) := by decide +kernel
theorem dX12_draw_0 : decode cX12_draw 0 = .ok (.iload_n 1, 1) := by decide +kernel
theorem dX12_draw_1 : decode cX12_draw 1 = .ok (.invokestatic 73, 3) := by decide +kernel
theorem dX12_draw_4 : decode cX12_draw 4 = .ok (.ifCond .ne 9, 3) := by decide +kernel
theorem dX12_draw_7 : decode cX12_draw 7 = .ok (.aload_n 0, 1) := by decide +kernel
theorem dX12_draw_8 : decode cX12_draw 8 = .ok (.iconst 1, 1) := by decide +kernel
theorem dX12_draw_9 : decode cX12_draw 9 = .ok (.invokevirtual 61, 3) := by decide +kernel
theorem dX12_draw_12 : decode cX12_draw 12 = .ok (.ireturn, 1) := by decide +kernel
theorem dX12_draw_13 : decode cX12_draw 13 = .ok (.aload_n 0, 1) := by decide +kernel
theorem dX12_draw_14 : decode cX12_draw 14 = .ok (.getfield 37, 3) := by decide +kernel
theorem dX12_draw_17 : decode cX12_draw 17 = .ok (.iload_n 1, 1) := by decide +kernel
theorem dX12_draw_18 : decode cX12_draw 18 = .ok (.iaload, 1) := by decide +kernel
theorem dX12_draw_19 : decode cX12_draw 19 = .ok (.ifCond .ne 9, 3) := by decide +kernel
theorem dX12_draw_22 : decode cX12_draw 22 = .ok (.aload_n 0, 1) := by decide +kernel
theorem dX12_draw_23 : decode cX12_draw 23 = .ok (.iconst 2, 1) := by decide +kernel
theorem dX12_draw_24 : decode cX12_draw 24 = .ok (.invokevirtual 61, 3) := by decide +kernel
theorem dX12_draw_27 : decode cX12_draw 27 = .ok (.ireturn, 1) := by decide +kernel
theorem dX12_draw_28 : decode cX12_draw 28 = .ok (.aload_n 0, 1) := by decide +kernel
theorem dX12_draw_29 : decode cX12_draw 29 = .ok (.getfield 7, 3) := by decide +kernel
theorem dX12_draw_32 : decode cX12_draw 32 = .ok (.iconst 1, 1) := by decide +kernel
theorem dX12_draw_33 : decode cX12_draw 33 = .ok (.iaload, 1) := by decide +kernel
theorem dX12_draw_34 : decode cX12_draw 34 = .ok (.aload_n 0, 1) := by decide +kernel
theorem dX12_draw_35 : decode cX12_draw 35 = .ok (.getfield 40, 3) := by decide +kernel
theorem dX12_draw_38 : decode cX12_draw 38 = .ok (.iload_n 1, 1) := by decide +kernel
theorem dX12_draw_39 : decode cX12_draw 39 = .ok (.iaload, 1) := by decide +kernel
theorem dX12_draw_40 : decode cX12_draw 40 = .ok (.if_icmp .ge 12, 3) := by decide +kernel
theorem dX12_draw_43 : decode cX12_draw 43 = .ok (.aload_n 0, 1) := by decide +kernel
theorem dX12_draw_44 : decode cX12_draw 44 = .ok (.getfield 7, 3) := by decide +kernel
theorem dX12_draw_47 : decode cX12_draw 47 = .ok (.iconst 1, 1) := by decide +kernel
theorem dX12_draw_48 : decode cX12_draw 48 = .ok (.iaload, 1) := by decide +kernel
theorem dX12_draw_49 : decode cX12_draw 49 = .ok (.goto 9, 3) := by decide +kernel
theorem dX12_draw_52 : decode cX12_draw 52 = .ok (.aload_n 0, 1) := by decide +kernel
theorem dX12_draw_53 : decode cX12_draw 53 = .ok (.getfield 40, 3) := by decide +kernel
theorem dX12_draw_56 : decode cX12_draw 56 = .ok (.iload_n 1, 1) := by decide +kernel
theorem dX12_draw_57 : decode cX12_draw 57 = .ok (.iaload, 1) := by decide +kernel
theorem dX12_draw_58 : decode cX12_draw 58 = .ok (.istore_n 2, 1) := by decide +kernel
theorem dX12_draw_59 : decode cX12_draw 59 = .ok (.iconst 0, 1) := by decide +kernel
theorem dX12_draw_60 : decode cX12_draw 60 = .ok (.istore_n 3, 1) := by decide +kernel
theorem dX12_draw_61 : decode cX12_draw 61 = .ok (.iload_n 3, 1) := by decide +kernel
theorem dX12_draw_62 : decode cX12_draw 62 = .ok (.iload_n 2, 1) := by decide +kernel
theorem dX12_draw_63 : decode cX12_draw 63 = .ok (.if_icmp .ge 67, 3) := by decide +kernel
theorem dX12_draw_66 : decode cX12_draw 66 = .ok (.aload_n 0, 1) := by decide +kernel
theorem dX12_draw_67 : decode cX12_draw 67 = .ok (.getfield 7, 3) := by decide +kernel
theorem dX12_draw_70 : decode cX12_draw 70 = .ok (.bipush 100, 2) := by decide +kernel
theorem dX12_draw_72 : decode cX12_draw 72 = .ok (.iload_n 3, 1) := by decide +kernel
theorem dX12_draw_73 : decode cX12_draw 73 = .ok (.iadd, 1) := by decide +kernel
theorem dX12_draw_74 : decode cX12_draw 74 = .ok (.iaload, 1) := by decide +kernel
theorem dX12_draw_75 : decode cX12_draw 75 = .ok (.istore 4, 2) := by decide +kernel
theorem dX12_draw_77 : decode cX12_draw 77 = .ok (.aload_n 0, 1) := by decide +kernel
theorem dX12_draw_78 : decode cX12_draw 78 = .ok (.getfield 43, 3) := by decide +kernel
theorem dX12_draw_81 : decode cX12_draw 81 = .ok (.bipush 40, 2) := by decide +kernel
theorem dX12_draw_83 : decode cX12_draw 83 = .ok (.iload_n 1, 1) := by decide +kernel
theorem dX12_draw_84 : decode cX12_draw 84 = .ok (.imul, 1) := by decide +kernel
theorem dX12_draw_85 : decode cX12_draw 85 = .ok (.iload_n 3, 1) := by decide +kernel
theorem dX12_draw_86 : decode cX12_draw 86 = .ok (.iadd, 1) := by decide +kernel
theorem dX12_draw_87 : decode cX12_draw 87 = .ok (.aload_n 0, 1) := by decide +kernel
theorem dX12_draw_88 : decode cX12_draw 88 = .ok (.getfield 37, 3) := by decide +kernel
theorem dX12_draw_91 : decode cX12_draw 91 = .ok (.iload_n 1, 1) := by decide +kernel
theorem dX12_draw_92 : decode cX12_draw 92 = .ok (.iaload, 1) := by decide +kernel
theorem dX12_draw_93 : decode cX12_draw 93 = .ok (.bipush 8, 2) := by decide +kernel
theorem dX12_draw_95 : decode cX12_draw 95 = .ok (.if_icmp .ne 9, 3) := by decide +kernel
theorem dX12_draw_98 : decode cX12_draw 98 = .ok (.iload 4, 2) := by decide +kernel
theorem dX12_draw_100 : decode cX12_draw 100 = .ok (.i2b, 1) := by decide +kernel
theorem dX12_draw_101 : decode cX12_draw 101 = .ok (.goto 22, 3) := by decide +kernel
theorem dX12_draw_104 : decode cX12_draw 104 = .ok (.aload_n 0, 1) := by decide +kernel
theorem dX12_draw_105 : decode cX12_draw 105 = .ok (.getfield 37, 3) := by decide +kernel
theorem dX12_draw_108 : decode cX12_draw 108 = .ok (.iload_n 1, 1) := by decide +kernel
theorem dX12_draw_109 : decode cX12_draw 109 = .ok (.iaload, 1) := by decide +kernel
theorem dX12_draw_110 : decode cX12_draw 110 = .ok (.bipush 16, 2) := by decide +kernel
theorem dX12_draw_112 : decode cX12_draw 112 = .ok (.if_icmp .ne 9, 3) := by decide +kernel
theorem dX12_draw_115 : decode cX12_draw 115 = .ok (.iload 4, 2) := by decide +kernel
theorem dX12_draw_117 : decode cX12_draw 117 = .ok (.i2s, 1) := by decide +kernel
theorem dX12_draw_118 : decode cX12_draw 118 = .ok (.goto 5, 3) := by decide +kernel
theorem dX12_draw_121 : decode cX12_draw 121 = .ok (.iload 4, 2) := by decide +kernel
theorem dX12_draw_123 : decode cX12_draw 123 = .ok (.iastore, 1) := by decide +kernel
theorem dX12_draw_124 : decode cX12_draw 124 = .ok (.iinc 3 1, 3) := by decide +kernel
theorem dX12_draw_127 : decode cX12_draw 127 = .ok (.goto (-66), 3) := by decide +kernel
theorem dX12_draw_130 : decode cX12_draw 130 = .ok (.iload_n 2, 1) := by decide +kernel
theorem dX12_draw_131 : decode cX12_draw 131 = .ok (.ireturn, 1) := by decide +kernel
theorem dX12_image_0 : decode cX12_image 0 = .ok (.aload_n 0, 1) := by decide +kernel
theorem dX12_image_1 : decode cX12_image 1 = .ok (.getfield 7, 3) := by decide +kernel
theorem dX12_image_4 : decode cX12_image 4 = .ok (.aload_n 0, 1) := by decide +kernel
theorem dX12_image_5 : decode cX12_image 5 = .ok (.getfield 16, 3) := by decide +kernel
theorem dX12_image_8 : decode cX12_image 8 = .ok (.invokestatic 199, 3) := by decide +kernel
theorem dX12_image_11 : decode cX12_image 11 = .ok (.aload_n 0, 1) := by decide +kernel
theorem dX12_image_12 : decode cX12_image 12 = .ok (.dup, 1) := by decide +kernel
theorem dX12_image_13 : decode cX12_image 13 = .ok (.getfield 273, 3) := by decide +kernel
theorem dX12_image_16 : decode cX12_image 16 = .ok (.iconst 1, 1) := by decide +kernel
theorem dX12_image_17 : decode cX12_image 17 = .ok (.iadd, 1) := by decide +kernel
theorem dX12_image_18 : decode cX12_image 18 = .ok (.putfield 273, 3) := by decide +kernel
theorem dX12_image_21 : decode cX12_image 21 = .ok (.aload_n 0, 1) := by decide +kernel
theorem dX12_image_22 : decode cX12_image 22 = .ok (.getfield 273, 3) := by decide +kernel
theorem dX12_image_25 : decode cX12_image 25 = .ok (.ireturn, 1) := by decide +kernel
theorem dX12_restore_0 : decode cX12_restore 0 = .ok (.aload_n 0, 1) := by decide +kernel
theorem dX12_restore_1 : decode cX12_restore 1 = .ok (.getfield 273, 3) := by decide +kernel
theorem dX12_restore_4 : decode cX12_restore 4 = .ok (.ifCond .ne 9, 3) := by decide +kernel
theorem dX12_restore_7 : decode cX12_restore 7 = .ok (.aload_n 0, 1) := by decide +kernel
theorem dX12_restore_8 : decode cX12_restore 8 = .ok (.iconst 2, 1) := by decide +kernel
theorem dX12_restore_9 : decode cX12_restore 9 = .ok (.invokevirtual 61, 3) := by decide +kernel
theorem dX12_restore_12 : decode cX12_restore 12 = .ok (.ireturn, 1) := by decide +kernel
theorem dX12_restore_13 : decode cX12_restore 13 = .ok (.aload_n 0, 1) := by decide +kernel
theorem dX12_restore_14 : decode cX12_restore 14 = .ok (.getfield 16, 3) := by decide +kernel
theorem dX12_restore_17 : decode cX12_restore 17 = .ok (.aload_n 0, 1) := by decide +kernel
theorem dX12_restore_18 : decode cX12_restore 18 = .ok (.getfield 7, 3) := by decide +kernel
theorem dX12_restore_21 : decode cX12_restore 21 = .ok (.invokestatic 199, 3) := by decide +kernel
theorem dX12_restore_24 : decode cX12_restore 24 = .ok (.aload_n 0, 1) := by decide +kernel
theorem dX12_restore_25 : decode cX12_restore 25 = .ok (.getfield 7, 3) := by decide +kernel
theorem dX12_restore_28 : decode cX12_restore 28 = .ok (.iconst 0, 1) := by decide +kernel
theorem dX12_restore_29 : decode cX12_restore 29 = .ok (.iaload, 1) := by decide +kernel
theorem dX12_restore_30 : decode cX12_restore 30 = .ok (.ireturn, 1) := by decide +kernel
theorem dX12_tell_0 : decode cX12_tell 0 = .ok (.aload_n 0, 1) := by decide +kernel
theorem dX12_tell_1 : decode cX12_tell 1 = .ok (.getfield 7, 3) := by decide +kernel
theorem dX12_tell_4 : decode cX12_tell 4 = .ok (.bipush 15, 2) := by decide +kernel
theorem dX12_tell_6 : decode cX12_tell 6 = .ok (.iaload, 1) := by decide +kernel
theorem dX12_tell_7 : decode cX12_tell 7 = .ok (.bipush 20, 2) := by decide +kernel
theorem dX12_tell_9 : decode cX12_tell 9 = .ok (.if_icmp .ne 9, 3) := by decide +kernel
theorem dX12_tell_12 : decode cX12_tell 12 = .ok (.aload_n 0, 1) := by decide +kernel
theorem dX12_tell_13 : decode cX12_tell 13 = .ok (.iconst 4, 1) := by decide +kernel
theorem dX12_tell_14 : decode cX12_tell 14 = .ok (.invokevirtual 61, 3) := by decide +kernel
theorem dX12_tell_17 : decode cX12_tell 17 = .ok (.ireturn, 1) := by decide +kernel
theorem dX12_tell_18 : decode cX12_tell 18 = .ok (.aload_n 0, 1) := by decide +kernel
theorem dX12_tell_19 : decode cX12_tell 19 = .ok (.getfield 7, 3) := by decide +kernel
theorem dX12_tell_22 : decode cX12_tell 22 = .ok (.bipush 70, 2) := by decide +kernel
theorem dX12_tell_24 : decode cX12_tell 24 = .ok (.aload_n 0, 1) := by decide +kernel
theorem dX12_tell_25 : decode cX12_tell 25 = .ok (.getfield 7, 3) := by decide +kernel
theorem dX12_tell_28 : decode cX12_tell 28 = .ok (.bipush 15, 2) := by decide +kernel
theorem dX12_tell_30 : decode cX12_tell 30 = .ok (.iaload, 1) := by decide +kernel
theorem dX12_tell_31 : decode cX12_tell 31 = .ok (.iadd, 1) := by decide +kernel
theorem dX12_tell_32 : decode cX12_tell 32 = .ok (.iload_n 1, 1) := by decide +kernel
theorem dX12_tell_33 : decode cX12_tell 33 = .ok (.iastore, 1) := by decide +kernel
theorem dX12_tell_34 : decode cX12_tell 34 = .ok (.aload_n 0, 1) := by decide +kernel
theorem dX12_tell_35 : decode cX12_tell 35 = .ok (.getfield 7, 3) := by decide +kernel
theorem dX12_tell_38 : decode cX12_tell 38 = .ok (.bipush 15, 2) := by decide +kernel
theorem dX12_tell_40 : decode cX12_tell 40 = .ok (.dup2, 1) := by decide +kernel
theorem dX12_tell_41 : decode cX12_tell 41 = .ok (.iaload, 1) := by decide +kernel
theorem dX12_tell_42 : decode cX12_tell 42 = .ok (.iconst 1, 1) := by decide +kernel
theorem dX12_tell_43 : decode cX12_tell 43 = .ok (.iadd, 1) := by decide +kernel
theorem dX12_tell_44 : decode cX12_tell 44 = .ok (.iastore, 1) := by decide +kernel
theorem dX12_tell_45 : decode cX12_tell 45 = .ok (.aload_n 0, 1) := by decide +kernel
theorem dX12_tell_46 : decode cX12_tell 46 = .ok (.getfield 7, 3) := by decide +kernel
theorem dX12_tell_49 : decode cX12_tell 49 = .ok (.bipush 15, 2) := by decide +kernel
theorem dX12_tell_51 : decode cX12_tell 51 = .ok (.iaload, 1) := by decide +kernel
theorem dX12_tell_52 : decode cX12_tell 52 = .ok (.ireturn, 1) := by decide +kernel
theorem dX12_check_0 : decode cX12_check 0 = .ok (.aload_n 0, 1) := by decide +kernel
theorem dX12_check_1 : decode cX12_check 1 = .ok (.getfield 7, 3) := by decide +kernel
theorem dX12_check_4 : decode cX12_check 4 = .ok (.bipush 15, 2) := by decide +kernel
theorem dX12_check_6 : decode cX12_check 6 = .ok (.iaload, 1) := by decide +kernel
theorem dX12_check_7 : decode cX12_check 7 = .ok (.istore_n 2, 1) := by decide +kernel
theorem dX12_check_8 : decode cX12_check 8 = .ok (.aload_n 0, 1) := by decide +kernel
theorem dX12_check_9 : decode cX12_check 9 = .ok (.getfield 7, 3) := by decide +kernel
theorem dX12_check_12 : decode cX12_check 12 = .ok (.bipush 15, 2) := by decide +kernel
theorem dX12_check_14 : decode cX12_check 14 = .ok (.iconst 0, 1) := by decide +kernel
theorem dX12_check_15 : decode cX12_check 15 = .ok (.iastore, 1) := by decide +kernel
theorem dX12_check_16 : decode cX12_check 16 = .ok (.iload_n 1, 1) := by decide +kernel
theorem dX12_check_17 : decode cX12_check 17 = .ok (.invokestatic 207, 3) := by decide +kernel
theorem dX12_check_20 : decode cX12_check 20 = .ok (.ifCond .ne 9, 3) := by decide +kernel
theorem dX12_check_23 : decode cX12_check 23 = .ok (.aload_n 0, 1) := by decide +kernel
theorem dX12_check_24 : decode cX12_check 24 = .ok (.iconst 1, 1) := by decide +kernel
theorem dX12_check_25 : decode cX12_check 25 = .ok (.invokevirtual 61, 3) := by decide +kernel
theorem dX12_check_28 : decode cX12_check 28 = .ok (.ireturn, 1) := by decide +kernel
theorem dX12_check_29 : decode cX12_check 29 = .ok (.aload_n 0, 1) := by decide +kernel
theorem dX12_check_30 : decode cX12_check 30 = .ok (.iload_n 1, 1) := by decide +kernel
theorem dX12_check_31 : decode cX12_check 31 = .ok (.invokevirtual 210, 3) := by decide +kernel
theorem dX12_check_34 : decode cX12_check 34 = .ok (.aload_n 0, 1) := by decide +kernel
theorem dX12_check_35 : decode cX12_check 35 = .ok (.aload_n 0, 1) := by decide +kernel
theorem dX12_check_36 : decode cX12_check 36 = .ok (.getfield 13, 3) := by decide +kernel
theorem dX12_check_39 : decode cX12_check 39 = .ok (.invokevirtual 194, 3) := by decide +kernel
theorem dX12_check_42 : decode cX12_check 42 = .ok (.iconst 0, 1) := by decide +kernel
theorem dX12_check_43 : decode cX12_check 43 = .ok (.istore_n 3, 1) := by decide +kernel
theorem dX12_check_44 : decode cX12_check 44 = .ok (.iload_n 3, 1) := by decide +kernel
theorem dX12_check_45 : decode cX12_check 45 = .ok (.iload_n 2, 1) := by decide +kernel
theorem dX12_check_46 : decode cX12_check 46 = .ok (.if_icmp .ge 35, 3) := by decide +kernel
theorem dX12_check_49 : decode cX12_check 49 = .ok (.iload_n 3, 1) := by decide +kernel
theorem dX12_check_50 : decode cX12_check 50 = .ok (.aload_n 0, 1) := by decide +kernel
theorem dX12_check_51 : decode cX12_check 51 = .ok (.getfield 191, 3) := by decide +kernel
theorem dX12_check_54 : decode cX12_check 54 = .ok (.if_icmp .ge 27, 3) := by decide +kernel
theorem dX12_check_57 : decode cX12_check 57 = .ok (.aload_n 0, 1) := by decide +kernel
theorem dX12_check_58 : decode cX12_check 58 = .ok (.getfield 7, 3) := by decide +kernel
theorem dX12_check_61 : decode cX12_check 61 = .ok (.bipush 70, 2) := by decide +kernel
theorem dX12_check_63 : decode cX12_check 63 = .ok (.iload_n 3, 1) := by decide +kernel
theorem dX12_check_64 : decode cX12_check 64 = .ok (.iadd, 1) := by decide +kernel
theorem dX12_check_65 : decode cX12_check 65 = .ok (.iaload, 1) := by decide +kernel
theorem dX12_check_66 : decode cX12_check 66 = .ok (.aload_n 0, 1) := by decide +kernel
theorem dX12_check_67 : decode cX12_check 67 = .ok (.getfield 25, 3) := by decide +kernel
theorem dX12_check_70 : decode cX12_check 70 = .ok (.iload_n 3, 1) := by decide +kernel
theorem dX12_check_71 : decode cX12_check 71 = .ok (.iaload, 1) := by decide +kernel
theorem dX12_check_72 : decode cX12_check 72 = .ok (.if_icmp .ne 9, 3) := by decide +kernel
theorem dX12_check_75 : decode cX12_check 75 = .ok (.iinc 3 1, 3) := by decide +kernel
theorem dX12_check_78 : decode cX12_check 78 = .ok (.goto (-34), 3) := by decide +kernel
theorem dX12_check_81 : decode cX12_check 81 = .ok (.iload_n 3, 1) := by decide +kernel
theorem dX12_check_82 : decode cX12_check 82 = .ok (.iload_n 2, 1) := by decide +kernel
theorem dX12_check_83 : decode cX12_check 83 = .ok (.if_icmp .ne 15, 3) := by decide +kernel
theorem dX12_check_86 : decode cX12_check 86 = .ok (.iload_n 3, 1) := by decide +kernel
theorem dX12_check_87 : decode cX12_check 87 = .ok (.aload_n 0, 1) := by decide +kernel
theorem dX12_check_88 : decode cX12_check 88 = .ok (.getfield 191, 3) := by decide +kernel
theorem dX12_check_91 : decode cX12_check 91 = .ok (.if_icmp .ne 7, 3) := by decide +kernel
theorem dX12_check_94 : decode cX12_check 94 = .ok (.iconst 0, 1) := by decide +kernel
theorem dX12_check_95 : decode cX12_check 95 = .ok (.goto 6, 3) := by decide +kernel
theorem dX12_check_98 : decode cX12_check 98 = .ok (.iconst 1, 1) := by decide +kernel
theorem dX12_check_99 : decode cX12_check 99 = .ok (.iload_n 3, 1) := by decide +kernel
theorem dX12_check_100 : decode cX12_check 100 = .ok (.iadd, 1) := by decide +kernel
theorem dX12_check_101 : decode cX12_check 101 = .ok (.ireturn, 1) := by decide +kernel
theorem dX12_count_0 : decode cX12_count 0 = .ok (.iload_n 1, 1) := by decide +kernel
theorem dX12_count_1 : decode cX12_count 1 = .ok (.tableswitch 128 0 9 #[55, 62, 69, 77, 85, 92, 99, 107, 115, 120], 55) := by decide +kernel
theorem dX12_count_56 : decode cX12_count 56 = .ok (.aload_n 0, 1) := by decide +kernel
theorem dX12_count_57 : decode cX12_count 57 = .ok (.getfield 7, 3) := by decide +kernel
theorem dX12_count_60 : decode cX12_count 60 = .ok (.iconst 0, 1) := by decide +kernel
theorem dX12_count_61 : decode cX12_count 61 = .ok (.iaload, 1) := by decide +kernel
theorem dX12_count_62 : decode cX12_count 62 = .ok (.ireturn, 1) := by decide +kernel
theorem dX12_count_63 : decode cX12_count 63 = .ok (.aload_n 0, 1) := by decide +kernel
theorem dX12_count_64 : decode cX12_count 64 = .ok (.getfield 7, 3) := by decide +kernel
theorem dX12_count_67 : decode cX12_count 67 = .ok (.iconst 1, 1) := by decide +kernel
theorem dX12_count_68 : decode cX12_count 68 = .ok (.iaload, 1) := by decide +kernel
theorem dX12_count_69 : decode cX12_count 69 = .ok (.ireturn, 1) := by decide +kernel
theorem dX12_count_70 : decode cX12_count 70 = .ok (.aload_n 0, 1) := by decide +kernel
theorem dX12_count_71 : decode cX12_count 71 = .ok (.getfield 7, 3) := by decide +kernel
theorem dX12_count_74 : decode cX12_count 74 = .ok (.bipush 11, 2) := by decide +kernel
theorem dX12_count_76 : decode cX12_count 76 = .ok (.iaload, 1) := by decide +kernel
theorem dX12_count_77 : decode cX12_count 77 = .ok (.ireturn, 1) := by decide +kernel
theorem dX12_count_78 : decode cX12_count 78 = .ok (.aload_n 0, 1) := by decide +kernel
theorem dX12_count_79 : decode cX12_count 79 = .ok (.getfield 7, 3) := by decide +kernel
theorem dX12_count_82 : decode cX12_count 82 = .ok (.bipush 12, 2) := by decide +kernel
theorem dX12_count_84 : decode cX12_count 84 = .ok (.iaload, 1) := by decide +kernel
theorem dX12_count_85 : decode cX12_count 85 = .ok (.ireturn, 1) := by decide +kernel
theorem dX12_count_86 : decode cX12_count 86 = .ok (.aload_n 0, 1) := by decide +kernel
theorem dX12_count_87 : decode cX12_count 87 = .ok (.getfield 7, 3) := by decide +kernel
theorem dX12_count_90 : decode cX12_count 90 = .ok (.iconst 2, 1) := by decide +kernel
theorem dX12_count_91 : decode cX12_count 91 = .ok (.iaload, 1) := by decide +kernel
theorem dX12_count_92 : decode cX12_count 92 = .ok (.ireturn, 1) := by decide +kernel
theorem dX12_count_93 : decode cX12_count 93 = .ok (.aload_n 0, 1) := by decide +kernel
theorem dX12_count_94 : decode cX12_count 94 = .ok (.getfield 7, 3) := by decide +kernel
theorem dX12_count_97 : decode cX12_count 97 = .ok (.iconst 3, 1) := by decide +kernel
theorem dX12_count_98 : decode cX12_count 98 = .ok (.iaload, 1) := by decide +kernel
theorem dX12_count_99 : decode cX12_count 99 = .ok (.ireturn, 1) := by decide +kernel
theorem dX12_count_100 : decode cX12_count 100 = .ok (.aload_n 0, 1) := by decide +kernel
theorem dX12_count_101 : decode cX12_count 101 = .ok (.getfield 7, 3) := by decide +kernel
theorem dX12_count_104 : decode cX12_count 104 = .ok (.bipush 14, 2) := by decide +kernel
theorem dX12_count_106 : decode cX12_count 106 = .ok (.iaload, 1) := by decide +kernel
theorem dX12_count_107 : decode cX12_count 107 = .ok (.ireturn, 1) := by decide +kernel
theorem dX12_count_108 : decode cX12_count 108 = .ok (.aload_n 0, 1) := by decide +kernel
theorem dX12_count_109 : decode cX12_count 109 = .ok (.getfield 7, 3) := by decide +kernel
theorem dX12_count_112 : decode cX12_count 112 = .ok (.bipush 15, 2) := by decide +kernel
theorem dX12_count_114 : decode cX12_count 114 = .ok (.iaload, 1) := by decide +kernel
theorem dX12_count_115 : decode cX12_count 115 = .ok (.ireturn, 1) := by decide +kernel
theorem dX12_count_116 : decode cX12_count 116 = .ok (.aload_n 0, 1) := by decide +kernel
theorem dX12_count_117 : decode cX12_count 117 = .ok (.getfield 241, 3) := by decide +kernel
theorem dX12_count_120 : decode cX12_count 120 = .ok (.ireturn, 1) := by decide +kernel
theorem dX12_count_121 : decode cX12_count 121 = .ok (.aload_n 0, 1) := by decide +kernel
theorem dX12_count_122 : decode cX12_count 122 = .ok (.getfield 7, 3) := by decide +kernel
theorem dX12_count_125 : decode cX12_count 125 = .ok (.bipush 13, 2) := by decide +kernel
theorem dX12_count_127 : decode cX12_count 127 = .ok (.iaload, 1) := by decide +kernel
theorem dX12_count_128 : decode cX12_count 128 = .ok (.ireturn, 1) := by decide +kernel
theorem dX12_count_129 : decode cX12_count 129 = .ok (.aload_n 0, 1) := by decide +kernel
theorem dX12_count_130 : decode cX12_count 130 = .ok (.iconst 1, 1) := by decide +kernel
theorem dX12_count_131 : decode cX12_count 131 = .ok (.invokevirtual 61, 3) := by decide +kernel
theorem dX12_count_134 : decode cX12_count 134 = .ok (.ireturn, 1) := by decide +kernel
theorem dX12_told_0 : decode cX12_told 0 = .ok (.iload_n 1, 1) := by decide +kernel
theorem dX12_told_1 : decode cX12_told 1 = .ok (.i2l, 1) := by decide +kernel
theorem dX12_told_2 : decode cX12_told 2 = .ok (.lconst 1, 1) := by decide +kernel
theorem dX12_told_3 : decode cX12_told 3 = .ok (.ldc2_w 276, 3) := by decide +kernel
theorem dX12_told_6 : decode cX12_told 6 = .ok (.invokestatic 51, 3) := by decide +kernel
theorem dX12_told_9 : decode cX12_told 9 = .ok (.ifCond .eq 12, 3) := by decide +kernel
theorem dX12_told_12 : decode cX12_told 12 = .ok (.aload_n 0, 1) := by decide +kernel
theorem dX12_told_13 : decode cX12_told 13 = .ok (.getfield 19, 3) := by decide +kernel
theorem dX12_told_16 : decode cX12_told 16 = .ok (.iload_n 1, 1) := by decide +kernel
theorem dX12_told_17 : decode cX12_told 17 = .ok (.iaload, 1) := by decide +kernel
theorem dX12_told_18 : decode cX12_told 18 = .ok (.goto 8, 3) := by decide +kernel
theorem dX12_told_21 : decode cX12_told 21 = .ok (.aload_n 0, 1) := by decide +kernel
theorem dX12_told_22 : decode cX12_told 22 = .ok (.iconst 1, 1) := by decide +kernel
theorem dX12_told_23 : decode cX12_told 23 = .ok (.invokevirtual 61, 3) := by decide +kernel
theorem dX12_told_26 : decode cX12_told 26 = .ok (.ireturn, 1) := by decide +kernel
