theorem dX11_init_0 : decode cX11_init 0 = .ok (.aload_n 0, 1) := by decide +kernel
theorem dX11_init_1 : decode cX11_init 1 = .ok (.invokespecial 1, 3) := by decide +kernel
theorem dX11_init_4 : decode cX11_init 4 = .ok (.aload_n 0, 1) := by decide +kernel
theorem dX11_init_5 : decode cX11_init 5 = .ok (.new 7, 3) := by decide +kernel
theorem dX11_init_8 : decode cX11_init 8 = .ok (.dup, 1) := by decide +kernel
theorem dX11_init_9 : decode cX11_init 9 = .ok (.invokespecial 9, 3) := by decide +kernel
theorem dX11_init_12 : decode cX11_init 12 = .ok (.putfield 10, 3) := by decide +kernel
theorem dX11_init_15 : decode cX11_init 15 = .ok (.aload_n 0, 1) := by decide +kernel
theorem dX11_init_16 : decode cX11_init 16 = .ok (.new 7, 3) := by decide +kernel
theorem dX11_init_19 : decode cX11_init 19 = .ok (.dup, 1) := by decide +kernel
theorem dX11_init_20 : decode cX11_init 20 = .ok (.invokespecial 9, 3) := by decide +kernel
theorem dX11_init_23 : decode cX11_init 23 = .ok (.putfield 16, 3) := by decide +kernel
theorem dX11_init_26 : decode cX11_init 26 = .ok (.aload_n 0, 1) := by decide +kernel
theorem dX11_init_27 : decode cX11_init 27 = .ok (.new 19, 3) := by decide +kernel
theorem dX11_init_30 : decode cX11_init 30 = .ok (.dup, 1) := by decide +kernel
theorem dX11_init_31 : decode cX11_init 31 = .ok (.invokespecial 21, 3) := by decide +kernel
theorem dX11_init_34 : decode cX11_init 34 = .ok (.putfield 22, 3) := by decide +kernel
theorem dX11_init_37 : decode cX11_init 37 = .ok (.aload_n 0, 1) := by decide +kernel
theorem dX11_init_38 : decode cX11_init 38 = .ok (.iconst 4, 1) := by decide +kernel
theorem dX11_init_39 : decode cX11_init 39 = .ok (.anewarray 26, 3) := by decide +kernel
theorem dX11_init_42 : decode cX11_init 42 = .ok (.putfield 28, 3) := by decide +kernel
theorem dX11_init_45 : decode cX11_init 45 = .ok (.iconst 0, 1) := by decide +kernel
theorem dX11_init_46 : decode cX11_init 46 = .ok (.istore_n 1, 1) := by decide +kernel
theorem dX11_init_47 : decode cX11_init 47 = .ok (.iload_n 1, 1) := by decide +kernel
theorem dX11_init_48 : decode cX11_init 48 = .ok (.iconst 4, 1) := by decide +kernel
theorem dX11_init_49 : decode cX11_init 49 = .ok (.if_icmp .ge 25, 3) := by decide +kernel
theorem dX11_init_52 : decode cX11_init 52 = .ok (.aload_n 0, 1) := by decide +kernel
theorem dX11_init_53 : decode cX11_init 53 = .ok (.getfield 28, 3) := by decide +kernel
theorem dX11_init_56 : decode cX11_init 56 = .ok (.iload_n 1, 1) := by decide +kernel
theorem dX11_init_57 : decode cX11_init 57 = .ok (.new 26, 3) := by decide +kernel
theorem dX11_init_60 : decode cX11_init 60 = .ok (.dup, 1) := by decide +kernel
theorem dX11_init_61 : decode cX11_init 61 = .ok (.bipush 40, 2) := by decide +kernel
theorem dX11_init_63 : decode cX11_init 63 = .ok (.iconst 0, 1) := by decide +kernel
theorem dX11_init_64 : decode cX11_init 64 = .ok (.invokespecial 32, 3) := by decide +kernel
theorem dX11_init_67 : decode cX11_init 67 = .ok (.aastore, 1) := by decide +kernel
theorem dX11_init_68 : decode cX11_init 68 = .ok (.iinc 1 1, 3) := by decide +kernel
theorem dX11_init_71 : decode cX11_init 71 = .ok (.goto (-24), 3) := by decide +kernel
theorem dX11_init_74 : decode cX11_init 74 = .ok (.aload_n 0, 1) := by decide +kernel
theorem dX11_init_75 : decode cX11_init 75 = .ok (.bipush 6, 2) := by decide +kernel
theorem dX11_init_77 : decode cX11_init 77 = .ok (.anewarray 26, 3) := by decide +kernel
theorem dX11_init_80 : decode cX11_init 80 = .ok (.putfield 35, 3) := by decide +kernel
theorem dX11_init_83 : decode cX11_init 83 = .ok (.iconst 0, 1) := by decide +kernel
theorem dX11_init_84 : decode cX11_init 84 = .ok (.istore_n 1, 1) := by decide +kernel
theorem dX11_init_85 : decode cX11_init 85 = .ok (.iload_n 1, 1) := by decide +kernel
theorem dX11_init_86 : decode cX11_init 86 = .ok (.bipush 6, 2) := by decide +kernel
theorem dX11_init_88 : decode cX11_init 88 = .ok (.if_icmp .ge 26, 3) := by decide +kernel
theorem dX11_init_91 : decode cX11_init 91 = .ok (.aload_n 0, 1) := by decide +kernel
theorem dX11_init_92 : decode cX11_init 92 = .ok (.getfield 35, 3) := by decide +kernel
theorem dX11_init_95 : decode cX11_init 95 = .ok (.iload_n 1, 1) := by decide +kernel
theorem dX11_init_96 : decode cX11_init 96 = .ok (.new 26, 3) := by decide +kernel
theorem dX11_init_99 : decode cX11_init 99 = .ok (.dup, 1) := by decide +kernel
theorem dX11_init_100 : decode cX11_init 100 = .ok (.bipush 40, 2) := by decide +kernel
theorem dX11_init_102 : decode cX11_init 102 = .ok (.bipush 32, 2) := by decide +kernel
theorem dX11_init_104 : decode cX11_init 104 = .ok (.invokespecial 32, 3) := by decide +kernel
theorem dX11_init_107 : decode cX11_init 107 = .ok (.aastore, 1) := by decide +kernel
theorem dX11_init_108 : decode cX11_init 108 = .ok (.iinc 1 1, 3) := by decide +kernel
theorem dX11_init_111 : decode cX11_init 111 = .ok (.goto (-26), 3) := by decide +kernel
theorem dX11_init_114 : decode cX11_init 114 = .ok (.aload_n 0, 1) := by decide +kernel
theorem dX11_init_115 : decode cX11_init 115 = .ok (.new 26, 3) := by decide +kernel
theorem dX11_init_118 : decode cX11_init 118 = .ok (.dup, 1) := by decide +kernel
theorem dX11_init_119 : decode cX11_init 119 = .ok (.bipush 40, 2) := by decide +kernel
theorem dX11_init_121 : decode cX11_init 121 = .ok (.bipush 32, 2) := by decide +kernel
theorem dX11_init_123 : decode cX11_init 123 = .ok (.invokespecial 32, 3) := by decide +kernel
theorem dX11_init_126 : decode cX11_init 126 = .ok (.putfield 38, 3) := by decide +kernel
theorem dX11_init_129 : decode cX11_init 129 = .ok (.aload_n 0, 1) := by decide +kernel
theorem dX11_init_130 : decode cX11_init 130 = .ok (.new 26, 3) := by decide +kernel
theorem dX11_init_133 : decode cX11_init 133 = .ok (.dup, 1) := by decide +kernel
theorem dX11_init_134 : decode cX11_init 134 = .ok (.bipush 40, 2) := by decide +kernel
theorem dX11_init_136 : decode cX11_init 136 = .ok (.bipush 32, 2) := by decide +kernel
theorem dX11_init_138 : decode cX11_init 138 = .ok (.invokespecial 32, 3) := by decide +kernel
theorem dX11_init_141 : decode cX11_init 141 = .ok (.putfield 42, 3) := by decide +kernel
theorem dX11_init_144 : decode cX11_init 144 = .ok (.aload_n 0, 1) := by decide +kernel
theorem dX11_init_145 : decode cX11_init 145 = .ok (.new 26, 3) := by decide +kernel
theorem dX11_init_148 : decode cX11_init 148 = .ok (.dup, 1) := by decide +kernel
theorem dX11_init_149 : decode cX11_init 149 = .ok (.bipush 40, 2) := by decide +kernel
theorem dX11_init_151 : decode cX11_init 151 = .ok (.bipush 32, 2) := by decide +kernel
theorem dX11_init_153 : decode cX11_init 153 = .ok (.invokespecial 32, 3) := by decide +kernel
theorem dX11_init_156 : decode cX11_init 156 = .ok (.putfield 45, 3) := by decide +kernel
theorem dX11_init_159 : decode cX11_init 159 = .ok (.aload_n 0, 1) := by decide +kernel
theorem dX11_init_160 : decode cX11_init 160 = .ok (.bipush 6, 2) := by decide +kernel
theorem dX11_init_162 : decode cX11_init 162 = .ok (.newarray .int, 2) := by decide +kernel
theorem dX11_init_164 : decode cX11_init 164 = .ok (.putfield 48, 3) := by decide +kernel
theorem dX11_init_167 : decode cX11_init 167 = .ok (.aload_n 0, 1) := by decide +kernel
theorem dX11_init_168 : decode cX11_init 168 = .ok (.iconst 0, 1) := by decide +kernel
theorem dX11_init_169 : decode cX11_init 169 = .ok (.putfield 52, 3) := by decide +kernel
theorem dX11_init_172 : decode cX11_init 172 = .ok (.return_, 1) := by decide +kernel
theorem dX11_cell_0 : decode cX11_cell 0 = .ok (.aload_n 0, 1) := by decide +kernel
theorem dX11_cell_1 : decode cX11_cell 1 = .ok (.getfield 10, 3) := by decide +kernel
theorem dX11_cell_4 : decode cX11_cell 4 = .ok (.getfield 56, 3) := by decide +kernel
theorem dX11_cell_7 : decode cX11_cell 7 = .ok (.astore_n 3, 1) := by decide +kernel
theorem dX11_cell_8 : decode cX11_cell 8 = .ok (.aload_n 3, 1) := by decide +kernel
theorem dX11_cell_9 : decode cX11_cell 9 = .ok (.iload_n 1, 1) := by decide +kernel
theorem dX11_cell_10 : decode cX11_cell 10 = .ok (.invokevirtual 59, 3) := by decide +kernel
theorem dX11_cell_13 : decode cX11_cell 13 = .ok (.ifCond .eq 12, 3) := by decide +kernel
theorem dX11_cell_16 : decode cX11_cell 16 = .ok (.iload_n 2, 1) := by decide +kernel
theorem dX11_cell_17 : decode cX11_cell 17 = .ok (.iconst 0, 1) := by decide +kernel
theorem dX11_cell_18 : decode cX11_cell 18 = .ok (.iconst 2, 1) := by decide +kernel
theorem dX11_cell_19 : decode cX11_cell 19 = .ok (.invokestatic 63, 3) := by decide +kernel
theorem dX11_cell_22 : decode cX11_cell 22 = .ok (.ifCond .ne 9, 3) := by decide +kernel
theorem dX11_cell_25 : decode cX11_cell 25 = .ok (.aload_n 0, 1) := by decide +kernel
theorem dX11_cell_26 : decode cX11_cell 26 = .ok (.iconst 1, 1) := by decide +kernel
theorem dX11_cell_27 : decode cX11_cell 27 = .ok (.invokevirtual 67, 3) := by decide +kernel
theorem dX11_cell_30 : decode cX11_cell 30 = .ok (.ireturn, 1) := by decide +kernel
theorem dX11_cell_31 : decode cX11_cell 31 = .ok (.iload_n 2, 1) := by decide +kernel
theorem dX11_cell_32 : decode cX11_cell 32 = .ok (.ifCond .ne 9, 3) := by decide +kernel
theorem dX11_cell_35 : decode cX11_cell 35 = .ok (.aload_n 3, 1) := by decide +kernel
theorem dX11_cell_36 : decode cX11_cell 36 = .ok (.iload_n 1, 1) := by decide +kernel
theorem dX11_cell_37 : decode cX11_cell 37 = .ok (.invokevirtual 71, 3) := by decide +kernel
theorem dX11_cell_40 : decode cX11_cell 40 = .ok (.ireturn, 1) := by decide +kernel
theorem dX11_cell_41 : decode cX11_cell 41 = .ok (.iload_n 2, 1) := by decide +kernel
theorem dX11_cell_42 : decode cX11_cell 42 = .ok (.iconst 1, 1) := by decide +kernel
theorem dX11_cell_43 : decode cX11_cell 43 = .ok (.if_icmp .ne 11, 3) := by decide +kernel
theorem dX11_cell_46 : decode cX11_cell 46 = .ok (.aload_n 3, 1) := by decide +kernel
theorem dX11_cell_47 : decode cX11_cell 47 = .ok (.iload_n 1, 1) := by decide +kernel
theorem dX11_cell_48 : decode cX11_cell 48 = .ok (.invokevirtual 74, 3) := by decide +kernel
theorem dX11_cell_51 : decode cX11_cell 51 = .ok (.goto 8, 3) := by decide +kernel
theorem dX11_cell_54 : decode cX11_cell 54 = .ok (.aload_n 3, 1) := by decide +kernel
theorem dX11_cell_55 : decode cX11_cell 55 = .ok (.iload_n 1, 1) := by decide +kernel
theorem dX11_cell_56 : decode cX11_cell 56 = .ok (.invokevirtual 77, 3) := by decide +kernel
theorem dX11_cell_59 : decode cX11_cell 59 = .ok (.ireturn, 1) := by decide +kernel
theorem dX11_shape_0 : decode cX11_shape 0 = .ok (.aload_n 0, 1) := by decide +kernel
theorem dX11_shape_1 : decode cX11_shape 1 = .ok (.getfield 10, 3) := by decide +kernel
theorem dX11_shape_4 : decode cX11_shape 4 = .ok (.getfield 56, 3) := by decide +kernel
theorem dX11_shape_7 : decode cX11_shape 7 = .ok (.astore 4, 2) := by decide +kernel
theorem dX11_shape_9 : decode cX11_shape 9 = .ok (.aload 4, 2) := by decide +kernel
theorem dX11_shape_11 : decode cX11_shape 11 = .ok (.iload_n 1, 1) := by decide +kernel
theorem dX11_shape_12 : decode cX11_shape 12 = .ok (.invokevirtual 59, 3) := by decide +kernel
theorem dX11_shape_15 : decode cX11_shape 15 = .ok (.ifCond .eq 31, 3) := by decide +kernel
theorem dX11_shape_18 : decode cX11_shape 18 = .ok (.iload_n 2, 1) := by decide +kernel
theorem dX11_shape_19 : decode cX11_shape 19 = .ok (.iconst 0, 1) := by decide +kernel
theorem dX11_shape_20 : decode cX11_shape 20 = .ok (.iconst 1, 1) := by decide +kernel
theorem dX11_shape_21 : decode cX11_shape 21 = .ok (.invokestatic 63, 3) := by decide +kernel
theorem dX11_shape_24 : decode cX11_shape 24 = .ok (.ifCond .eq 22, 3) := by decide +kernel
theorem dX11_shape_27 : decode cX11_shape 27 = .ok (.iload_n 3, 1) := by decide +kernel
theorem dX11_shape_28 : decode cX11_shape 28 = .ok (.iconst 0, 1) := by decide +kernel
theorem dX11_shape_29 : decode cX11_shape 29 = .ok (.iload_n 2, 1) := by decide +kernel
theorem dX11_shape_30 : decode cX11_shape 30 = .ok (.ifCond .ne 8, 3) := by decide +kernel
theorem dX11_shape_33 : decode cX11_shape 33 = .ok (.ldc 80, 2) := by decide +kernel
theorem dX11_shape_35 : decode cX11_shape 35 = .ok (.goto 5, 3) := by decide +kernel
theorem dX11_shape_38 : decode cX11_shape 38 = .ok (.ldc 81, 2) := by decide +kernel
theorem dX11_shape_40 : decode cX11_shape 40 = .ok (.invokestatic 63, 3) := by decide +kernel
theorem dX11_shape_43 : decode cX11_shape 43 = .ok (.ifCond .ne 9, 3) := by decide +kernel
theorem dX11_shape_46 : decode cX11_shape 46 = .ok (.aload_n 0, 1) := by decide +kernel
theorem dX11_shape_47 : decode cX11_shape 47 = .ok (.iconst 1, 1) := by decide +kernel
theorem dX11_shape_48 : decode cX11_shape 48 = .ok (.invokevirtual 67, 3) := by decide +kernel
theorem dX11_shape_51 : decode cX11_shape 51 = .ok (.ireturn, 1) := by decide +kernel
theorem dX11_shape_52 : decode cX11_shape 52 = .ok (.iload_n 2, 1) := by decide +kernel
theorem dX11_shape_53 : decode cX11_shape 53 = .ok (.ifCond .ne 11, 3) := by decide +kernel
theorem dX11_shape_56 : decode cX11_shape 56 = .ok (.aload 4, 2) := by decide +kernel
theorem dX11_shape_58 : decode cX11_shape 58 = .ok (.getfield 82, 3) := by decide +kernel
theorem dX11_shape_61 : decode cX11_shape 61 = .ok (.goto 8, 3) := by decide +kernel
theorem dX11_shape_64 : decode cX11_shape 64 = .ok (.aload 4, 2) := by decide +kernel
theorem dX11_shape_66 : decode cX11_shape 66 = .ok (.getfield 85, 3) := by decide +kernel
theorem dX11_shape_69 : decode cX11_shape 69 = .ok (.astore 5, 2) := by decide +kernel
theorem dX11_shape_71 : decode cX11_shape 71 = .ok (.aload 5, 2) := by decide +kernel
theorem dX11_shape_73 : decode cX11_shape 73 = .ok (.iload_n 1, 1) := by decide +kernel
theorem dX11_shape_74 : decode cX11_shape 74 = .ok (.iaload, 1) := by decide +kernel
theorem dX11_shape_75 : decode cX11_shape 75 = .ok (.istore 6, 2) := by decide +kernel
theorem dX11_shape_77 : decode cX11_shape 77 = .ok (.aload 5, 2) := by decide +kernel
theorem dX11_shape_79 : decode cX11_shape 79 = .ok (.iload_n 1, 1) := by decide +kernel
theorem dX11_shape_80 : decode cX11_shape 80 = .ok (.iload_n 3, 1) := by decide +kernel
theorem dX11_shape_81 : decode cX11_shape 81 = .ok (.iastore, 1) := by decide +kernel
theorem dX11_shape_82 : decode cX11_shape 82 = .ok (.iload 6, 2) := by decide +kernel
theorem dX11_shape_84 : decode cX11_shape 84 = .ok (.ireturn, 1) := by decide +kernel
theorem dX11_cells_0 : decode cX11_cells 0 = .ok (.iload_n 1, 1) := by decide +kernel
theorem dX11_cells_1 : decode cX11_cells 1 = .ok (.invokestatic 88, 3) := by decide +kernel
theorem dX11_cells_4 : decode cX11_cells 4 = .ok (.ifCond .ne 9, 3) := by decide +kernel
theorem dX11_cells_7 : decode cX11_cells 7 = .ok (.aload_n 0, 1) := by decide +kernel
theorem dX11_cells_8 : decode cX11_cells 8 = .ok (.iconst 1, 1) := by decide +kernel
theorem dX11_cells_9 : decode cX11_cells 9 = .ok (.invokevirtual 67, 3) := by decide +kernel
theorem dX11_cells_12 : decode cX11_cells 12 = .ok (.ireturn, 1) := by decide +kernel
theorem dX11_cells_13 : decode cX11_cells 13 = .ok (.aload_n 0, 1) := by decide +kernel
theorem dX11_cells_14 : decode cX11_cells 14 = .ok (.getfield 28, 3) := by decide +kernel
theorem dX11_cells_17 : decode cX11_cells 17 = .ok (.iload_n 1, 1) := by decide +kernel
theorem dX11_cells_18 : decode cX11_cells 18 = .ok (.aaload, 1) := by decide +kernel
theorem dX11_cells_19 : decode cX11_cells 19 = .ok (.astore_n 2, 1) := by decide +kernel
theorem dX11_cells_20 : decode cX11_cells 20 = .ok (.aload_n 2, 1) := by decide +kernel
theorem dX11_cells_21 : decode cX11_cells 21 = .ok (.invokevirtual 91, 3) := by decide +kernel
theorem dX11_cells_24 : decode cX11_cells 24 = .ok (.ifCond .eq 9, 3) := by decide +kernel
theorem dX11_cells_27 : decode cX11_cells 27 = .ok (.aload_n 0, 1) := by decide +kernel
theorem dX11_cells_28 : decode cX11_cells 28 = .ok (.iconst 2, 1) := by decide +kernel
theorem dX11_cells_29 : decode cX11_cells 29 = .ok (.invokevirtual 67, 3) := by decide +kernel
theorem dX11_cells_32 : decode cX11_cells 32 = .ok (.ireturn, 1) := by decide +kernel
theorem dX11_cells_33 : decode cX11_cells 33 = .ok (.aload_n 0, 1) := by decide +kernel
theorem dX11_cells_34 : decode cX11_cells 34 = .ok (.getfield 10, 3) := by decide +kernel
theorem dX11_cells_37 : decode cX11_cells 37 = .ok (.getfield 56, 3) := by decide +kernel
theorem dX11_cells_40 : decode cX11_cells 40 = .ok (.astore_n 3, 1) := by decide +kernel
theorem dX11_cells_41 : decode cX11_cells 41 = .ok (.aload_n 2, 1) := by decide +kernel
theorem dX11_cells_42 : decode cX11_cells 42 = .ok (.getfield 95, 3) := by decide +kernel
theorem dX11_cells_45 : decode cX11_cells 45 = .ok (.aload_n 3, 1) := by decide +kernel
theorem dX11_cells_46 : decode cX11_cells 46 = .ok (.getfield 98, 3) := by decide +kernel
theorem dX11_cells_49 : decode cX11_cells 49 = .ok (.invokestatic 101, 3) := by decide +kernel
theorem dX11_cells_52 : decode cX11_cells 52 = .ok (.istore 4, 2) := by decide +kernel
theorem dX11_cells_54 : decode cX11_cells 54 = .ok (.iconst 0, 1) := by decide +kernel
theorem dX11_cells_55 : decode cX11_cells 55 = .ok (.istore 5, 2) := by decide +kernel
theorem dX11_cells_57 : decode cX11_cells 57 = .ok (.iload 5, 2) := by decide +kernel
theorem dX11_cells_59 : decode cX11_cells 59 = .ok (.iload 4, 2) := by decide +kernel
theorem dX11_cells_61 : decode cX11_cells 61 = .ok (.if_icmp .ge 37, 3) := by decide +kernel
theorem dX11_cells_64 : decode cX11_cells 64 = .ok (.aload_n 2, 1) := by decide +kernel
theorem dX11_cells_65 : decode cX11_cells 65 = .ok (.iload 5, 2) := by decide +kernel
theorem dX11_cells_67 : decode cX11_cells 67 = .ok (.invokevirtual 107, 3) := by decide +kernel
theorem dX11_cells_70 : decode cX11_cells 70 = .ok (.iconst 0, 1) := by decide +kernel
theorem dX11_cells_71 : decode cX11_cells 71 = .ok (.ldc 80, 2) := by decide +kernel
theorem dX11_cells_73 : decode cX11_cells 73 = .ok (.invokestatic 63, 3) := by decide +kernel
theorem dX11_cells_76 : decode cX11_cells 76 = .ok (.ifCond .eq 22, 3) := by decide +kernel
theorem dX11_cells_79 : decode cX11_cells 79 = .ok (.aload_n 3, 1) := by decide +kernel
theorem dX11_cells_80 : decode cX11_cells 80 = .ok (.getfield 82, 3) := by decide +kernel
theorem dX11_cells_83 : decode cX11_cells 83 = .ok (.iload 5, 2) := by decide +kernel
theorem dX11_cells_85 : decode cX11_cells 85 = .ok (.aload_n 2, 1) := by decide +kernel
theorem dX11_cells_86 : decode cX11_cells 86 = .ok (.iload 5, 2) := by decide +kernel
theorem dX11_cells_88 : decode cX11_cells 88 = .ok (.invokevirtual 107, 3) := by decide +kernel
theorem dX11_cells_91 : decode cX11_cells 91 = .ok (.iastore, 1) := by decide +kernel
theorem dX11_cells_92 : decode cX11_cells 92 = .ok (.iinc 5 1, 3) := by decide +kernel
theorem dX11_cells_95 : decode cX11_cells 95 = .ok (.goto (-38), 3) := by decide +kernel
theorem dX11_cells_98 : decode cX11_cells 98 = .ok (.iload 5, 2) := by decide +kernel
theorem dX11_cells_100 : decode cX11_cells 100 = .ok (.ireturn, 1) := by decide +kernel
theorem dX11_set_0 : decode cX11_set 0 = .ok (.iload_n 1, 1) := by decide +kernel
theorem dX11_set_1 : decode cX11_set 1 = .ok (.iload_n 2, 1) := by decide +kernel
theorem dX11_set_2 : decode cX11_set 2 = .ok (.invokestatic 110, 3) := by decide +kernel
theorem dX11_set_5 : decode cX11_set 5 = .ok (.ifCond .ne 9, 3) := by decide +kernel
theorem dX11_set_8 : decode cX11_set 8 = .ok (.aload_n 0, 1) := by decide +kernel
theorem dX11_set_9 : decode cX11_set 9 = .ok (.iconst 1, 1) := by decide +kernel
theorem dX11_set_10 : decode cX11_set 10 = .ok (.invokevirtual 67, 3) := by decide +kernel
theorem dX11_set_13 : decode cX11_set 13 = .ok (.ireturn, 1) := by decide +kernel
theorem dX11_set_14 : decode cX11_set 14 = .ok (.aload_n 0, 1) := by decide +kernel
theorem dX11_set_15 : decode cX11_set 15 = .ok (.getfield 10, 3) := by decide +kernel
theorem dX11_set_18 : decode cX11_set 18 = .ok (.getfield 56, 3) := by decide +kernel
theorem dX11_set_21 : decode cX11_set 21 = .ok (.getfield 114, 3) := by decide +kernel
theorem dX11_set_24 : decode cX11_set 24 = .ok (.iload_n 1, 1) := by decide +kernel
theorem dX11_set_25 : decode cX11_set 25 = .ok (.iaload, 1) := by decide +kernel
theorem dX11_set_26 : decode cX11_set 26 = .ok (.istore_n 3, 1) := by decide +kernel
theorem dX11_set_27 : decode cX11_set 27 = .ok (.aload_n 0, 1) := by decide +kernel
theorem dX11_set_28 : decode cX11_set 28 = .ok (.getfield 10, 3) := by decide +kernel
theorem dX11_set_31 : decode cX11_set 31 = .ok (.getfield 56, 3) := by decide +kernel
theorem dX11_set_34 : decode cX11_set 34 = .ok (.getfield 114, 3) := by decide +kernel
theorem dX11_set_37 : decode cX11_set 37 = .ok (.iload_n 1, 1) := by decide +kernel
theorem dX11_set_38 : decode cX11_set 38 = .ok (.iload_n 2, 1) := by decide +kernel
theorem dX11_set_39 : decode cX11_set 39 = .ok (.iastore, 1) := by decide +kernel
theorem dX11_set_40 : decode cX11_set 40 = .ok (.iload_n 3, 1) := by decide +kernel
theorem dX11_set_41 : decode cX11_set 41 = .ok (.ireturn, 1) := by decide +kernel
theorem dX11_cause_0 : decode cX11_cause 0 = .ok (.iload_n 1, 1) := by decide +kernel
theorem dX11_cause_1 : decode cX11_cause 1 = .ok (.iconst 0, 1) := by decide +kernel
theorem dX11_cause_2 : decode cX11_cause 2 = .ok (.bipush 6, 2) := by decide +kernel
theorem dX11_cause_4 : decode cX11_cause 4 = .ok (.invokestatic 63, 3) := by decide +kernel
theorem dX11_cause_7 : decode cX11_cause 7 = .ok (.ifCond .eq 13, 3) := by decide +kernel
theorem dX11_cause_10 : decode cX11_cause 10 = .ok (.iload_n 2, 1) := by decide +kernel
theorem dX11_cause_11 : decode cX11_cause 11 = .ok (.iconst 0, 1) := by decide +kernel
theorem dX11_cause_12 : decode cX11_cause 12 = .ok (.bipush 99, 2) := by decide +kernel
theorem dX11_cause_14 : decode cX11_cause 14 = .ok (.invokestatic 63, 3) := by decide +kernel
theorem dX11_cause_17 : decode cX11_cause 17 = .ok (.ifCond .ne 9, 3) := by decide +kernel
theorem dX11_cause_20 : decode cX11_cause 20 = .ok (.aload_n 0, 1) := by decide +kernel
theorem dX11_cause_21 : decode cX11_cause 21 = .ok (.iconst 1, 1) := by decide +kernel
theorem dX11_cause_22 : decode cX11_cause 22 = .ok (.invokevirtual 67, 3) := by decide +kernel
theorem dX11_cause_25 : decode cX11_cause 25 = .ok (.ireturn, 1) := by decide +kernel
theorem dX11_cause_26 : decode cX11_cause 26 = .ok (.aload_n 0, 1) := by decide +kernel
theorem dX11_cause_27 : decode cX11_cause 27 = .ok (.getfield 10, 3) := by decide +kernel
theorem dX11_cause_30 : decode cX11_cause 30 = .ok (.getfield 56, 3) := by decide +kernel
theorem dX11_cause_33 : decode cX11_cause 33 = .ok (.astore_n 3, 1) := by decide +kernel
theorem dX11_cause_34 : decode cX11_cause 34 = .ok (.aload_n 3, 1) := by decide +kernel
theorem dX11_cause_35 : decode cX11_cause 35 = .ok (.getfield 117, 3) := by decide +kernel
theorem dX11_cause_38 : decode cX11_cause 38 = .ok (.istore 4, 2) := by decide +kernel
theorem dX11_cause_40 : decode cX11_cause 40 = .ok (.iload 4, 2) := by decide +kernel
theorem dX11_cause_42 : decode cX11_cause 42 = .ok (.bipush 6, 2) := by decide +kernel
theorem dX11_cause_44 : decode cX11_cause 44 = .ok (.if_icmp .lt 9, 3) := by decide +kernel
theorem dX11_cause_47 : decode cX11_cause 47 = .ok (.aload_n 0, 1) := by decide +kernel
theorem dX11_cause_48 : decode cX11_cause 48 = .ok (.iconst 4, 1) := by decide +kernel
theorem dX11_cause_49 : decode cX11_cause 49 = .ok (.invokevirtual 67, 3) := by decide +kernel
theorem dX11_cause_52 : decode cX11_cause 52 = .ok (.ireturn, 1) := by decide +kernel
theorem dX11_cause_53 : decode cX11_cause 53 = .ok (.aload_n 3, 1) := by decide +kernel
theorem dX11_cause_54 : decode cX11_cause 54 = .ok (.getfield 120, 3) := by decide +kernel
theorem dX11_cause_57 : decode cX11_cause 57 = .ok (.iload 4, 2) := by decide +kernel
theorem dX11_cause_59 : decode cX11_cause 59 = .ok (.iload_n 1, 1) := by decide +kernel
theorem dX11_cause_60 : decode cX11_cause 60 = .ok (.iload 4, 2) := by decide +kernel
theorem dX11_cause_62 : decode cX11_cause 62 = .ok (.iload_n 2, 1) := by decide +kernel
theorem dX11_cause_63 : decode cX11_cause 63 = .ok (.invokestatic 124, 3) := by decide +kernel
theorem dX11_cause_66 : decode cX11_cause 66 = .ok (.aastore, 1) := by decide +kernel
theorem dX11_cause_67 : decode cX11_cause 67 = .ok (.aload_n 3, 1) := by decide +kernel
theorem dX11_cause_68 : decode cX11_cause 68 = .ok (.aload_n 3, 1) := by decide +kernel
theorem dX11_cause_69 : decode cX11_cause 69 = .ok (.getfield 128, 3) := by decide +kernel
theorem dX11_cause_72 : decode cX11_cause 72 = .ok (.iconst 1, 1) := by decide +kernel
theorem dX11_cause_73 : decode cX11_cause 73 = .ok (.iload 4, 2) := by decide +kernel
theorem dX11_cause_75 : decode cX11_cause 75 = .ok (.ishl, 1) := by decide +kernel
theorem dX11_cause_76 : decode cX11_cause 76 = .ok (.ior, 1) := by decide +kernel
theorem dX11_cause_77 : decode cX11_cause 77 = .ok (.putfield 128, 3) := by decide +kernel
theorem dX11_cause_80 : decode cX11_cause 80 = .ok (.aload_n 3, 1) := by decide +kernel
theorem dX11_cause_81 : decode cX11_cause 81 = .ok (.iload 4, 2) := by decide +kernel
theorem dX11_cause_83 : decode cX11_cause 83 = .ok (.iconst 1, 1) := by decide +kernel
theorem dX11_cause_84 : decode cX11_cause 84 = .ok (.iadd, 1) := by decide +kernel
theorem dX11_cause_85 : decode cX11_cause 85 = .ok (.putfield 117, 3) := by decide +kernel
theorem dX11_cause_88 : decode cX11_cause 88 = .ok (.iload 4, 2) := by decide +kernel
theorem dX11_cause_90 : decode cX11_cause 90 = .ok (.ireturn, 1) := by decide +kernel
theorem dX11_ofCause_0 : decode cX11_ofCause 0 = .ok (.aload_n 0, 1) := by decide +kernel
theorem dX11_ofCause_1 : decode cX11_ofCause 1 = .ok (.iload_n 1, 1) := by decide +kernel
theorem dX11_ofCause_2 : decode cX11_ofCause 2 = .ok (.invokevirtual 131, 3) := by decide +kernel
theorem dX11_ofCause_5 : decode cX11_ofCause 5 = .ok (.astore_n 3, 1) := by decide +kernel
theorem dX11_ofCause_6 : decode cX11_ofCause 6 = .ok (.aload_n 3, 1) := by decide +kernel
theorem dX11_ofCause_7 : decode cX11_ofCause 7 = .ok (.ifnull 12, 3) := by decide +kernel
theorem dX11_ofCause_10 : decode cX11_ofCause 10 = .ok (.iload_n 2, 1) := by decide +kernel
theorem dX11_ofCause_11 : decode cX11_ofCause 11 = .ok (.iconst 0, 1) := by decide +kernel
theorem dX11_ofCause_12 : decode cX11_ofCause 12 = .ok (.iconst 2, 1) := by decide +kernel
theorem dX11_ofCause_13 : decode cX11_ofCause 13 = .ok (.invokestatic 63, 3) := by decide +kernel
theorem dX11_ofCause_16 : decode cX11_ofCause 16 = .ok (.ifCond .ne 9, 3) := by decide +kernel
theorem dX11_ofCause_19 : decode cX11_ofCause 19 = .ok (.aload_n 0, 1) := by decide +kernel
theorem dX11_ofCause_20 : decode cX11_ofCause 20 = .ok (.iconst 1, 1) := by decide +kernel
theorem dX11_ofCause_21 : decode cX11_ofCause 21 = .ok (.invokevirtual 67, 3) := by decide +kernel
theorem dX11_ofCause_24 : decode cX11_ofCause 24 = .ok (.ireturn, 1) := by decide +kernel
theorem dX11_ofCause_25 : decode cX11_ofCause 25 = .ok (.iload_n 2, 1) := by decide +kernel
theorem dX11_ofCause_26 : decode cX11_ofCause 26 = .ok (.ifCond .ne 8, 3) := by decide +kernel
theorem dX11_ofCause_29 : decode cX11_ofCause 29 = .ok (.aload_n 3, 1) := by decide +kernel
theorem dX11_ofCause_30 : decode cX11_ofCause 30 = .ok (.getfield 135, 3) := by decide +kernel
theorem dX11_ofCause_33 : decode cX11_ofCause 33 = .ok (.ireturn, 1) := by decide +kernel
theorem dX11_ofCause_34 : decode cX11_ofCause 34 = .ok (.iload_n 2, 1) := by decide +kernel
theorem dX11_ofCause_35 : decode cX11_ofCause 35 = .ok (.iconst 1, 1) := by decide +kernel
theorem dX11_ofCause_36 : decode cX11_ofCause 36 = .ok (.if_icmp .ne 10, 3) := by decide +kernel
theorem dX11_ofCause_39 : decode cX11_ofCause 39 = .ok (.aload_n 3, 1) := by decide +kernel
theorem dX11_ofCause_40 : decode cX11_ofCause 40 = .ok (.getfield 140, 3) := by decide +kernel
theorem dX11_ofCause_43 : decode cX11_ofCause 43 = .ok (.goto 8, 3) := by decide +kernel
theorem dX11_ofCause_46 : decode cX11_ofCause 46 = .ok (.aload_n 0, 1) := by decide +kernel
theorem dX11_ofCause_47 : decode cX11_ofCause 47 = .ok (.iload_n 1, 1) := by decide +kernel
theorem dX11_ofCause_48 : decode cX11_ofCause 48 = .ok (.invokevirtual 143, 3) := by decide +kernel
theorem dX11_ofCause_51 : decode cX11_ofCause 51 = .ok (.ireturn, 1) := by decide +kernel
theorem dX11_as_0 : decode cX11_as 0 = .ok (.aload_n 0, 1) := by decide +kernel
theorem dX11_as_1 : decode cX11_as 1 = .ok (.iload_n 1, 1) := by decide +kernel
theorem dX11_as_2 : decode cX11_as 2 = .ok (.invokevirtual 131, 3) := by decide +kernel
theorem dX11_as_5 : decode cX11_as 5 = .ok (.astore_n 3, 1) := by decide +kernel
theorem dX11_as_6 : decode cX11_as 6 = .ok (.aload_n 3, 1) := by decide +kernel
theorem dX11_as_7 : decode cX11_as 7 = .ok (.ifnull 13, 3) := by decide +kernel
theorem dX11_as_10 : decode cX11_as 10 = .ok (.iload_n 2, 1) := by decide +kernel
theorem dX11_as_11 : decode cX11_as 11 = .ok (.iconst 0, 1) := by decide +kernel
theorem dX11_as_12 : decode cX11_as 12 = .ok (.bipush 6, 2) := by decide +kernel
theorem dX11_as_14 : decode cX11_as 14 = .ok (.invokestatic 63, 3) := by decide +kernel
theorem dX11_as_17 : decode cX11_as 17 = .ok (.ifCond .ne 9, 3) := by decide +kernel
theorem dX11_as_20 : decode cX11_as 20 = .ok (.aload_n 0, 1) := by decide +kernel
theorem dX11_as_21 : decode cX11_as 21 = .ok (.iconst 1, 1) := by decide +kernel
theorem dX11_as_22 : decode cX11_as 22 = .ok (.invokevirtual 67, 3) := by decide +kernel
theorem dX11_as_25 : decode cX11_as 25 = .ok (.ireturn, 1) := by decide +kernel
theorem dX11_as_26 : decode cX11_as 26 = .ok (.aload_n 3, 1) := by decide +kernel
theorem dX11_as_27 : decode cX11_as 27 = .ok (.iload_n 2, 1) := by decide +kernel
theorem dX11_as_28 : decode cX11_as 28 = .ok (.invokestatic 146, 3) := by decide +kernel
theorem dX11_as_31 : decode cX11_as 31 = .ok (.ifCond .eq 10, 3) := by decide +kernel
theorem dX11_as_34 : decode cX11_as 34 = .ok (.aload_n 3, 1) := by decide +kernel
theorem dX11_as_35 : decode cX11_as 35 = .ok (.getfield 140, 3) := by decide +kernel
theorem dX11_as_38 : decode cX11_as 38 = .ok (.goto 8, 3) := by decide +kernel
theorem dX11_as_41 : decode cX11_as 41 = .ok (.aload_n 0, 1) := by decide +kernel
theorem dX11_as_42 : decode cX11_as 42 = .ok (.iconst 5, 1) := by decide +kernel
theorem dX11_as_43 : decode cX11_as 43 = .ok (.invokevirtual 67, 3) := by decide +kernel
theorem dX11_as_46 : decode cX11_as 46 = .ok (.ireturn, 1) := by decide +kernel
theorem dX11_turn_0 : decode cX11_turn 0 = .ok (.aload_n 0, 1) := by decide +kernel
theorem dX11_turn_1 : decode cX11_turn 1 = .ok (.iload_n 1, 1) := by decide +kernel
theorem dX11_turn_2 : decode cX11_turn 2 = .ok (.invokevirtual 131, 3) := by decide +kernel
theorem dX11_turn_5 : decode cX11_turn 5 = .ok (.ifnull 12, 3) := by decide +kernel
theorem dX11_turn_8 : decode cX11_turn 8 = .ok (.iload_n 2, 1) := by decide +kernel
theorem dX11_turn_9 : decode cX11_turn 9 = .ok (.iconst 0, 1) := by decide +kernel
theorem dX11_turn_10 : decode cX11_turn 10 = .ok (.iconst 1, 1) := by decide +kernel
theorem dX11_turn_11 : decode cX11_turn 11 = .ok (.invokestatic 63, 3) := by decide +kernel
theorem dX11_turn_14 : decode cX11_turn 14 = .ok (.ifCond .ne 9, 3) := by decide +kernel
theorem dX11_turn_17 : decode cX11_turn 17 = .ok (.aload_n 0, 1) := by decide +kernel
theorem dX11_turn_18 : decode cX11_turn 18 = .ok (.iconst 1, 1) := by decide +kernel
theorem dX11_turn_19 : decode cX11_turn 19 = .ok (.invokevirtual 67, 3) := by decide +kernel
theorem dX11_turn_22 : decode cX11_turn 22 = .ok (.ireturn, 1) := by decide +kernel
theorem dX11_turn_23 : decode cX11_turn 23 = .ok (.aload_n 0, 1) := by decide +kernel
theorem dX11_turn_24 : decode cX11_turn 24 = .ok (.iload_n 1, 1) := by decide +kernel
theorem dX11_turn_25 : decode cX11_turn 25 = .ok (.invokevirtual 143, 3) := by decide +kernel
theorem dX11_turn_28 : decode cX11_turn 28 = .ok (.istore_n 3, 1) := by decide +kernel
theorem dX11_turn_29 : decode cX11_turn 29 = .ok (.aload_n 0, 1) := by decide +kernel
theorem dX11_turn_30 : decode cX11_turn 30 = .ok (.getfield 10, 3) := by decide +kernel
theorem dX11_turn_33 : decode cX11_turn 33 = .ok (.getfield 56, 3) := by decide +kernel
theorem dX11_turn_36 : decode cX11_turn 36 = .ok (.astore 4, 2) := by decide +kernel
theorem dX11_turn_38 : decode cX11_turn 38 = .ok (.aload 4, 2) := by decide +kernel
theorem dX11_turn_40 : decode cX11_turn 40 = .ok (.aload 4, 2) := by decide +kernel
theorem dX11_turn_42 : decode cX11_turn 42 = .ok (.getfield 128, 3) := by decide +kernel
theorem dX11_turn_45 : decode cX11_turn 45 = .ok (.iconst 1, 1) := by decide +kernel
theorem dX11_turn_46 : decode cX11_turn 46 = .ok (.iload_n 1, 1) := by decide +kernel
theorem dX11_turn_47 : decode cX11_turn 47 = .ok (.ishl, 1) := by decide +kernel
theorem dX11_turn_48 : decode cX11_turn 48 = .ok (.iconst (-1), 1) := by decide +kernel
theorem dX11_turn_49 : decode cX11_turn 49 = .ok (.ixor, 1) := by decide +kernel
theorem dX11_turn_50 : decode cX11_turn 50 = .ok (.iand, 1) := by decide +kernel
theorem dX11_turn_51 : decode cX11_turn 51 = .ok (.iload_n 2, 1) := by decide +kernel
theorem dX11_turn_52 : decode cX11_turn 52 = .ok (.iload_n 1, 1) := by decide +kernel
theorem dX11_turn_53 : decode cX11_turn 53 = .ok (.ishl, 1) := by decide +kernel
theorem dX11_turn_54 : decode cX11_turn 54 = .ok (.ior, 1) := by decide +kernel
theorem dX11_turn_55 : decode cX11_turn 55 = .ok (.putfield 128, 3) := by decide +kernel
theorem dX11_turn_58 : decode cX11_turn 58 = .ok (.iload_n 3, 1) := by decide +kernel
theorem dX11_turn_59 : decode cX11_turn 59 = .ok (.ireturn, 1) := by decide +kernel
theorem dX11_freezes_0 : decode cX11_freezes 0 = .ok (.aload_n 0, 1) := by decide +kernel
theorem dX11_freezes_1 : decode cX11_freezes 1 = .ok (.iload_n 1, 1) := by decide +kernel
theorem dX11_freezes_2 : decode cX11_freezes 2 = .ok (.invokevirtual 131, 3) := by decide +kernel
theorem dX11_freezes_5 : decode cX11_freezes 5 = .ok (.astore 5, 2) := by decide +kernel
theorem dX11_freezes_7 : decode cX11_freezes 7 = .ok (.aload_n 0, 1) := by decide +kernel
theorem dX11_freezes_8 : decode cX11_freezes 8 = .ok (.getfield 10, 3) := by decide +kernel
theorem dX11_freezes_11 : decode cX11_freezes 11 = .ok (.getfield 56, 3) := by decide +kernel
theorem dX11_freezes_14 : decode cX11_freezes 14 = .ok (.astore 6, 2) := by decide +kernel
theorem dX11_freezes_16 : decode cX11_freezes 16 = .ok (.aload 5, 2) := by decide +kernel
theorem dX11_freezes_18 : decode cX11_freezes 18 = .ok (.ifnull 33, 3) := by decide +kernel
theorem dX11_freezes_21 : decode cX11_freezes 21 = .ok (.aload 6, 2) := by decide +kernel
theorem dX11_freezes_23 : decode cX11_freezes 23 = .ok (.iload_n 2, 1) := by decide +kernel
theorem dX11_freezes_24 : decode cX11_freezes 24 = .ok (.invokevirtual 59, 3) := by decide +kernel
theorem dX11_freezes_27 : decode cX11_freezes 27 = .ok (.ifCond .eq 24, 3) := by decide +kernel
theorem dX11_freezes_30 : decode cX11_freezes 30 = .ok (.iload_n 3, 1) := by decide +kernel
theorem dX11_freezes_31 : decode cX11_freezes 31 = .ok (.iconst 0, 1) := by decide +kernel
theorem dX11_freezes_32 : decode cX11_freezes 32 = .ok (.ldc 81, 2) := by decide +kernel
theorem dX11_freezes_34 : decode cX11_freezes 34 = .ok (.invokestatic 63, 3) := by decide +kernel
theorem dX11_freezes_37 : decode cX11_freezes 37 = .ok (.ifCond .eq 14, 3) := by decide +kernel
theorem dX11_freezes_40 : decode cX11_freezes 40 = .ok (.iload 4, 2) := by decide +kernel
theorem dX11_freezes_42 : decode cX11_freezes 42 = .ok (.iconst 0, 1) := by decide +kernel
theorem dX11_freezes_43 : decode cX11_freezes 43 = .ok (.ldc 81, 2) := by decide +kernel
theorem dX11_freezes_45 : decode cX11_freezes 45 = .ok (.invokestatic 63, 3) := by decide +kernel
theorem dX11_freezes_48 : decode cX11_freezes 48 = .ok (.ifCond .ne 9, 3) := by decide +kernel
theorem dX11_freezes_51 : decode cX11_freezes 51 = .ok (.aload_n 0, 1) := by decide +kernel
theorem dX11_freezes_52 : decode cX11_freezes 52 = .ok (.iconst 1, 1) := by decide +kernel
theorem dX11_freezes_53 : decode cX11_freezes 53 = .ok (.invokevirtual 67, 3) := by decide +kernel
theorem dX11_freezes_56 : decode cX11_freezes 56 = .ok (.ireturn, 1) := by decide +kernel
theorem dX11_freezes_57 : decode cX11_freezes 57 = .ok (.aload 6, 2) := by decide +kernel
theorem dX11_freezes_59 : decode cX11_freezes 59 = .ok (.aload 6, 2) := by decide +kernel
theorem dX11_freezes_61 : decode cX11_freezes 61 = .ok (.getfield 114, 3) := by decide +kernel
theorem dX11_freezes_64 : decode cX11_freezes 64 = .ok (.iconst 3, 1) := by decide +kernel
theorem dX11_freezes_65 : decode cX11_freezes 65 = .ok (.iaload, 1) := by decide +kernel
theorem dX11_freezes_66 : decode cX11_freezes 66 = .ok (.invokevirtual 150, 3) := by decide +kernel
theorem dX11_freezes_69 : decode cX11_freezes 69 = .ok (.aload 5, 2) := by decide +kernel
theorem dX11_freezes_71 : decode cX11_freezes 71 = .ok (.aload 6, 2) := by decide +kernel
theorem dX11_freezes_73 : decode cX11_freezes 73 = .ok (.iload_n 2, 1) := by decide +kernel
theorem dX11_freezes_74 : decode cX11_freezes 74 = .ok (.iload_n 3, 1) := by decide +kernel
theorem dX11_freezes_75 : decode cX11_freezes 75 = .ok (.iload 4, 2) := by decide +kernel
theorem dX11_freezes_77 : decode cX11_freezes 77 = .ok (.invokevirtual 154, 3) := by decide +kernel
theorem dX11_freezes_80 : decode cX11_freezes 80 = .ok (.ireturn, 1) := by decide +kernel
theorem dX11_feed_0 : decode cX11_feed 0 = .ok (.iload_n 3, 1) := by decide +kernel
theorem dX11_feed_1 : decode cX11_feed 1 = .ok (.iconst 1, 1) := by decide +kernel
theorem dX11_feed_2 : decode cX11_feed 2 = .ok (.bipush 8, 2) := by decide +kernel
theorem dX11_feed_4 : decode cX11_feed 4 = .ok (.invokestatic 63, 3) := by decide +kernel
theorem dX11_feed_7 : decode cX11_feed 7 = .ok (.ifCond .ne 9, 3) := by decide +kernel
theorem dX11_feed_10 : decode cX11_feed 10 = .ok (.aload_n 0, 1) := by decide +kernel
theorem dX11_feed_11 : decode cX11_feed 11 = .ok (.iconst 1, 1) := by decide +kernel
theorem dX11_feed_12 : decode cX11_feed 12 = .ok (.invokevirtual 67, 3) := by decide +kernel
theorem dX11_feed_15 : decode cX11_feed 15 = .ok (.ireturn, 1) := by decide +kernel
theorem dX11_feed_16 : decode cX11_feed 16 = .ok (.aload_n 0, 1) := by decide +kernel
theorem dX11_feed_17 : decode cX11_feed 17 = .ok (.getfield 10, 3) := by decide +kernel
theorem dX11_feed_20 : decode cX11_feed 20 = .ok (.getfield 158, 3) := by decide +kernel
theorem dX11_feed_23 : decode cX11_feed 23 = .ok (.astore 4, 2) := by decide +kernel
theorem dX11_feed_25 : decode cX11_feed 25 = .ok (.aload 4, 2) := by decide +kernel
theorem dX11_feed_27 : decode cX11_feed 27 = .ok (.getfield 95, 3) := by decide +kernel
theorem dX11_feed_30 : decode cX11_feed 30 = .ok (.iload_n 3, 1) := by decide +kernel
theorem dX11_feed_31 : decode cX11_feed 31 = .ok (.iadd, 1) := by decide +kernel
theorem dX11_feed_32 : decode cX11_feed 32 = .ok (.bipush 50, 2) := by decide +kernel
theorem dX11_feed_34 : decode cX11_feed 34 = .ok (.if_icmp .le 9, 3) := by decide +kernel
theorem dX11_feed_37 : decode cX11_feed 37 = .ok (.aload_n 0, 1) := by decide +kernel
theorem dX11_feed_38 : decode cX11_feed 38 = .ok (.iconst 4, 1) := by decide +kernel
theorem dX11_feed_39 : decode cX11_feed 39 = .ok (.invokevirtual 67, 3) := by decide +kernel
theorem dX11_feed_42 : decode cX11_feed 42 = .ok (.ireturn, 1) := by decide +kernel
theorem dX11_feed_43 : decode cX11_feed 43 = .ok (.iconst 0, 1) := by decide +kernel
theorem dX11_feed_44 : decode cX11_feed 44 = .ok (.istore 5, 2) := by decide +kernel
theorem dX11_feed_46 : decode cX11_feed 46 = .ok (.iload 5, 2) := by decide +kernel
theorem dX11_feed_48 : decode cX11_feed 48 = .ok (.iload_n 3, 1) := by decide +kernel
theorem dX11_feed_49 : decode cX11_feed 49 = .ok (.if_icmp .ge 26, 3) := by decide +kernel
theorem dX11_feed_52 : decode cX11_feed 52 = .ok (.aload 4, 2) := by decide +kernel
theorem dX11_feed_54 : decode cX11_feed 54 = .ok (.lload_n 1, 1) := by decide +kernel
theorem dX11_feed_55 : decode cX11_feed 55 = .ok (.bipush 8, 2) := by decide +kernel
theorem dX11_feed_57 : decode cX11_feed 57 = .ok (.iload 5, 2) := by decide +kernel
theorem dX11_feed_59 : decode cX11_feed 59 = .ok (.imul, 1) := by decide +kernel
theorem dX11_feed_60 : decode cX11_feed 60 = .ok (.lushr, 1) := by decide +kernel
theorem dX11_feed_61 : decode cX11_feed 61 = .ok (.l2i, 1) := by decide +kernel
theorem dX11_feed_62 : decode cX11_feed 62 = .ok (.sipush 255, 3) := by decide +kernel
theorem dX11_feed_65 : decode cX11_feed 65 = .ok (.iand, 1) := by decide +kernel
theorem dX11_feed_66 : decode cX11_feed 66 = .ok (.invokevirtual 161, 3) := by decide +kernel
theorem dX11_feed_69 : decode cX11_feed 69 = .ok (.iinc 5 1, 3) := by decide +kernel
theorem dX11_feed_72 : decode cX11_feed 72 = .ok (.goto (-26), 3) := by decide +kernel
theorem dX11_feed_75 : decode cX11_feed 75 = .ok (.aload 4, 2) := by decide +kernel
theorem dX11_feed_77 : decode cX11_feed 77 = .ok (.getfield 95, 3) := by decide +kernel
theorem dX11_feed_80 : decode cX11_feed 80 = .ok (.ireturn, 1) := by decide +kernel
theorem dX11_text_0 : decode cX11_text 0 = .ok (.iload_n 1, 1) := by decide +kernel
theorem dX11_text_1 : decode cX11_text 1 = .ok (.iconst 0, 1) := by decide +kernel
theorem dX11_text_2 : decode cX11_text 2 = .ok (.iconst 1, 1) := by decide +kernel
theorem dX11_text_3 : decode cX11_text 3 = .ok (.invokestatic 63, 3) := by decide +kernel
theorem dX11_text_6 : decode cX11_text 6 = .ok (.ifCond .ne 9, 3) := by decide +kernel
theorem dX11_text_9 : decode cX11_text 9 = .ok (.aload_n 0, 1) := by decide +kernel
theorem dX11_text_10 : decode cX11_text 10 = .ok (.iconst 1, 1) := by decide +kernel
theorem dX11_text_11 : decode cX11_text 11 = .ok (.invokevirtual 67, 3) := by decide +kernel
theorem dX11_text_14 : decode cX11_text 14 = .ok (.ireturn, 1) := by decide +kernel
theorem dX11_text_15 : decode cX11_text 15 = .ok (.new 164, 3) := by decide +kernel
theorem dX11_text_18 : decode cX11_text 18 = .ok (.dup, 1) := by decide +kernel
theorem dX11_text_19 : decode cX11_text 19 = .ok (.invokespecial 166, 3) := by decide +kernel
theorem dX11_text_22 : decode cX11_text 22 = .ok (.astore_n 2, 1) := by decide +kernel
theorem dX11_text_23 : decode cX11_text 23 = .ok (.aload_n 2, 1) := by decide +kernel
theorem dX11_text_24 : decode cX11_text 24 = .ok (.aload_n 0, 1) := by decide +kernel
theorem dX11_text_25 : decode cX11_text 25 = .ok (.getfield 10, 3) := by decide +kernel
theorem dX11_text_28 : decode cX11_text 28 = .ok (.getfield 158, 3) := by decide +kernel
theorem dX11_text_31 : decode cX11_text 31 = .ok (.invokevirtual 167, 3) := by decide +kernel
theorem dX11_text_34 : decode cX11_text 34 = .ok (.istore_n 3, 1) := by decide +kernel
theorem dX11_text_35 : decode cX11_text 35 = .ok (.aload_n 0, 1) := by decide +kernel
theorem dX11_text_36 : decode cX11_text 36 = .ok (.getfield 10, 3) := by decide +kernel
theorem dX11_text_39 : decode cX11_text 39 = .ok (.getfield 158, 3) := by decide +kernel
theorem dX11_text_42 : decode cX11_text 42 = .ok (.invokevirtual 171, 3) := by decide +kernel
theorem dX11_text_45 : decode cX11_text 45 = .ok (.iload_n 3, 1) := by decide +kernel
theorem dX11_text_46 : decode cX11_text 46 = .ok (.ifCond .lt 8, 3) := by decide +kernel
theorem dX11_text_49 : decode cX11_text 49 = .ok (.bipush (-10), 2) := by decide +kernel
theorem dX11_text_51 : decode cX11_text 51 = .ok (.iload_n 3, 1) := by decide +kernel
theorem dX11_text_52 : decode cX11_text 52 = .ok (.isub, 1) := by decide +kernel
theorem dX11_text_53 : decode cX11_text 53 = .ok (.ireturn, 1) := by decide +kernel
theorem dX11_text_54 : decode cX11_text 54 = .ok (.aload_n 0, 1) := by decide +kernel
theorem dX11_text_55 : decode cX11_text 55 = .ok (.getfield 10, 3) := by decide +kernel
theorem dX11_text_58 : decode cX11_text 58 = .ok (.getfield 56, 3) := by decide +kernel
theorem dX11_text_61 : decode cX11_text 61 = .ok (.getfield 174, 3) := by decide +kernel
theorem dX11_text_64 : decode cX11_text 64 = .ok (.iload_n 1, 1) := by decide +kernel
theorem dX11_text_65 : decode cX11_text 65 = .ok (.aload_n 2, 1) := by decide +kernel
theorem dX11_text_66 : decode cX11_text 66 = .ok (.aastore, 1) := by decide +kernel
theorem dX11_text_67 : decode cX11_text 67 = .ok (.iconst 1, 1) := by decide +kernel
theorem dX11_text_68 : decode cX11_text 68 = .ok (.ireturn, 1) := by decide +kernel
theorem dX11_law_0 : decode cX11_law 0 = .ok (.iload_n 1, 1) := by decide +kernel
theorem dX11_law_1 : decode cX11_law 1 = .ok (.iconst 0, 1) := by decide +kernel
theorem dX11_law_2 : decode cX11_law 2 = .ok (.iconst 1, 1) := by decide +kernel
theorem dX11_law_3 : decode cX11_law 3 = .ok (.invokestatic 63, 3) := by decide +kernel
theorem dX11_law_6 : decode cX11_law 6 = .ok (.ifCond .eq 21, 3) := by decide +kernel
theorem dX11_law_9 : decode cX11_law 9 = .ok (.aload_n 0, 1) := by decide +kernel
theorem dX11_law_10 : decode cX11_law 10 = .ok (.getfield 10, 3) := by decide +kernel
theorem dX11_law_13 : decode cX11_law 13 = .ok (.getfield 56, 3) := by decide +kernel
theorem dX11_law_16 : decode cX11_law 16 = .ok (.iload_n 1, 1) := by decide +kernel
theorem dX11_law_17 : decode cX11_law 17 = .ok (.iload_n 2, 1) := by decide +kernel
theorem dX11_law_18 : decode cX11_law 18 = .ok (.iload_n 3, 1) := by decide +kernel
theorem dX11_law_19 : decode cX11_law 19 = .ok (.iload 4, 2) := by decide +kernel
theorem dX11_law_21 : decode cX11_law 21 = .ok (.invokevirtual 178, 3) := by decide +kernel
theorem dX11_law_24 : decode cX11_law 24 = .ok (.goto 8, 3) := by decide +kernel
theorem dX11_law_27 : decode cX11_law 27 = .ok (.aload_n 0, 1) := by decide +kernel
theorem dX11_law_28 : decode cX11_law 28 = .ok (.iconst 1, 1) := by decide +kernel
theorem dX11_law_29 : decode cX11_law 29 = .ok (.invokevirtual 67, 3) := by decide +kernel
theorem dX11_law_32 : decode cX11_law 32 = .ok (.ireturn, 1) := by decide +kernel
theorem dX11_ticks_0 : decode cX11_ticks 0 = .ok (.iload_n 1, 1) := by decide +kernel
theorem dX11_ticks_1 : decode cX11_ticks 1 = .ok (.iconst 1, 1) := by decide +kernel
theorem dX11_ticks_2 : decode cX11_ticks 2 = .ok (.bipush 100, 2) := by decide +kernel
theorem dX11_ticks_4 : decode cX11_ticks 4 = .ok (.invokestatic 63, 3) := by decide +kernel
theorem dX11_ticks_7 : decode cX11_ticks 7 = .ok (.ifCond .ne 9, 3) := by decide +kernel
theorem dX11_ticks_10 : decode cX11_ticks 10 = .ok (.aload_n 0, 1) := by decide +kernel
theorem dX11_ticks_11 : decode cX11_ticks 11 = .ok (.iconst 1, 1) := by decide +kernel
theorem dX11_ticks_12 : decode cX11_ticks 12 = .ok (.invokevirtual 67, 3) := by decide +kernel
theorem dX11_ticks_15 : decode cX11_ticks 15 = .ok (.ireturn, 1) := by decide +kernel
theorem dX11_ticks_16 : decode cX11_ticks 16 = .ok (.aload_n 0, 1) := by decide +kernel
theorem dX11_ticks_17 : decode cX11_ticks 17 = .ok (.getfield 10, 3) := by decide +kernel
theorem dX11_ticks_20 : decode cX11_ticks 20 = .ok (.getfield 56, 3) := by decide +kernel
theorem dX11_ticks_23 : decode cX11_ticks 23 = .ok (.getfield 182, 3) := by decide +kernel
theorem dX11_ticks_26 : decode cX11_ticks 26 = .ok (.iload_n 1, 1) := by decide +kernel
theorem dX11_ticks_27 : decode cX11_ticks 27 = .ok (.iadd, 1) := by decide +kernel
theorem dX11_ticks_28 : decode cX11_ticks 28 = .ok (.sipush 9999, 3) := by decide +kernel
theorem dX11_ticks_31 : decode cX11_ticks 31 = .ok (.if_icmp .le 9, 3) := by decide +kernel
theorem dX11_ticks_34 : decode cX11_ticks 34 = .ok (.aload_n 0, 1) := by decide +kernel
theorem dX11_ticks_35 : decode cX11_ticks 35 = .ok (.iconst 3, 1) := by decide +kernel
theorem dX11_ticks_36 : decode cX11_ticks 36 = .ok (.invokevirtual 67, 3) := by decide +kernel
theorem dX11_ticks_39 : decode cX11_ticks 39 = .ok (.ireturn, 1) := by decide +kernel
theorem dX11_ticks_40 : decode cX11_ticks 40 = .ok (.aload_n 0, 1) := by decide +kernel
theorem dX11_ticks_41 : decode cX11_ticks 41 = .ok (.getfield 10, 3) := by decide +kernel
theorem dX11_ticks_44 : decode cX11_ticks 44 = .ok (.getfield 56, 3) := by decide +kernel
theorem dX11_ticks_47 : decode cX11_ticks 47 = .ok (.iload_n 1, 1) := by decide +kernel
theorem dX11_ticks_48 : decode cX11_ticks 48 = .ok (.invokevirtual 185, 3) := by decide +kernel
theorem dX11_ticks_51 : decode cX11_ticks 51 = .ok (.aload_n 0, 1) := by decide +kernel
theorem dX11_ticks_52 : decode cX11_ticks 52 = .ok (.getfield 10, 3) := by decide +kernel
theorem dX11_ticks_55 : decode cX11_ticks 55 = .ok (.getfield 56, 3) := by decide +kernel
theorem dX11_ticks_58 : decode cX11_ticks 58 = .ok (.getfield 182, 3) := by decide +kernel
theorem dX11_ticks_61 : decode cX11_ticks 61 = .ok (.ireturn, 1) := by decide +kernel
theorem dX11_gusts_0 : decode cX11_gusts 0 = .ok (.iload_n 1, 1) := by decide +kernel
theorem dX11_gusts_1 : decode cX11_gusts 1 = .ok (.iconst 1, 1) := by decide +kernel
theorem dX11_gusts_2 : decode cX11_gusts 2 = .ok (.bipush 100, 2) := by decide +kernel
theorem dX11_gusts_4 : decode cX11_gusts 4 = .ok (.invokestatic 63, 3) := by decide +kernel
theorem dX11_gusts_7 : decode cX11_gusts 7 = .ok (.ifCond .ne 9, 3) := by decide +kernel
theorem dX11_gusts_10 : decode cX11_gusts 10 = .ok (.aload_n 0, 1) := by decide +kernel
theorem dX11_gusts_11 : decode cX11_gusts 11 = .ok (.iconst 1, 1) := by decide +kernel
theorem dX11_gusts_12 : decode cX11_gusts 12 = .ok (.invokevirtual 67, 3) := by decide +kernel
theorem dX11_gusts_15 : decode cX11_gusts 15 = .ok (.ireturn, 1) := by decide +kernel
theorem dX11_gusts_16 : decode cX11_gusts 16 = .ok (.aload_n 0, 1) := by decide +kernel
theorem dX11_gusts_17 : decode cX11_gusts 17 = .ok (.getfield 10, 3) := by decide +kernel
theorem dX11_gusts_20 : decode cX11_gusts 20 = .ok (.getfield 56, 3) := by decide +kernel
theorem dX11_gusts_23 : decode cX11_gusts 23 = .ok (.getfield 182, 3) := by decide +kernel
theorem dX11_gusts_26 : decode cX11_gusts 26 = .ok (.iload_n 1, 1) := by decide +kernel
theorem dX11_gusts_27 : decode cX11_gusts 27 = .ok (.iadd, 1) := by decide +kernel
theorem dX11_gusts_28 : decode cX11_gusts 28 = .ok (.sipush 9999, 3) := by decide +kernel
theorem dX11_gusts_31 : decode cX11_gusts 31 = .ok (.if_icmp .le 9, 3) := by decide +kernel
theorem dX11_gusts_34 : decode cX11_gusts 34 = .ok (.aload_n 0, 1) := by decide +kernel
theorem dX11_gusts_35 : decode cX11_gusts 35 = .ok (.iconst 3, 1) := by decide +kernel
theorem dX11_gusts_36 : decode cX11_gusts 36 = .ok (.invokevirtual 67, 3) := by decide +kernel
theorem dX11_gusts_39 : decode cX11_gusts 39 = .ok (.ireturn, 1) := by decide +kernel
theorem dX11_gusts_40 : decode cX11_gusts 40 = .ok (.iconst 0, 1) := by decide +kernel
theorem dX11_gusts_41 : decode cX11_gusts 41 = .ok (.istore_n 2, 1) := by decide +kernel
theorem dX11_gusts_42 : decode cX11_gusts 42 = .ok (.iload_n 2, 1) := by decide +kernel
theorem dX11_gusts_43 : decode cX11_gusts 43 = .ok (.iload_n 1, 1) := by decide +kernel
theorem dX11_gusts_44 : decode cX11_gusts 44 = .ok (.if_icmp .ge 29, 3) := by decide +kernel
theorem dX11_gusts_47 : decode cX11_gusts 47 = .ok (.aload_n 0, 1) := by decide +kernel
theorem dX11_gusts_48 : decode cX11_gusts 48 = .ok (.getfield 10, 3) := by decide +kernel
theorem dX11_gusts_51 : decode cX11_gusts 51 = .ok (.getfield 56, 3) := by decide +kernel
theorem dX11_gusts_54 : decode cX11_gusts 54 = .ok (.aload_n 0, 1) := by decide +kernel
theorem dX11_gusts_55 : decode cX11_gusts 55 = .ok (.getfield 10, 3) := by decide +kernel
theorem dX11_gusts_58 : decode cX11_gusts 58 = .ok (.invokevirtual 188, 3) := by decide +kernel
theorem dX11_gusts_61 : decode cX11_gusts 61 = .ok (.bipush 100, 2) := by decide +kernel
theorem dX11_gusts_63 : decode cX11_gusts 63 = .ok (.irem, 1) := by decide +kernel
theorem dX11_gusts_64 : decode cX11_gusts 64 = .ok (.invokevirtual 192, 3) := by decide +kernel
theorem dX11_gusts_67 : decode cX11_gusts 67 = .ok (.iinc 2 1, 3) := by decide +kernel
theorem dX11_gusts_70 : decode cX11_gusts 70 = .ok (.goto (-28), 3) := by decide +kernel
theorem dX11_gusts_73 : decode cX11_gusts 73 = .ok (.aload_n 0, 1) := by decide +kernel
theorem dX11_gusts_74 : decode cX11_gusts 74 = .ok (.getfield 10, 3) := by decide +kernel
theorem dX11_gusts_77 : decode cX11_gusts 77 = .ok (.getfield 56, 3) := by decide +kernel
theorem dX11_gusts_80 : decode cX11_gusts 80 = .ok (.getfield 182, 3) := by decide +kernel
theorem dX11_gusts_83 : decode cX11_gusts 83 = .ok (.ireturn, 1) := by decide +kernel
theorem dX11_mass_0 : decode cX11_mass 0 = .ok (.aload_n 0, 1) := by decide +kernel
theorem dX11_mass_1 : decode cX11_mass 1 = .ok (.getfield 10, 3) := by decide +kernel
theorem dX11_mass_4 : decode cX11_mass 4 = .ok (.getfield 56, 3) := by decide +kernel
theorem dX11_mass_7 : decode cX11_mass 7 = .ok (.invokevirtual 195, 3) := by decide +kernel
theorem dX11_mass_10 : decode cX11_mass 10 = .ok (.ireturn, 1) := by decide +kernel
theorem dX11_ring_0 : decode cX11_ring 0 = .ok (.iload_n 1, 1) := by decide +kernel
theorem dX11_ring_1 : decode cX11_ring 1 = .ok (.iconst (-1), 1) := by decide +kernel
theorem dX11_ring_2 : decode cX11_ring 2 = .ok (.if_icmp .ge 9, 3) := by decide +kernel
theorem dX11_ring_5 : decode cX11_ring 5 = .ok (.aload_n 0, 1) := by decide +kernel
theorem dX11_ring_6 : decode cX11_ring 6 = .ok (.iconst 1, 1) := by decide +kernel
theorem dX11_ring_7 : decode cX11_ring 7 = .ok (.invokevirtual 67, 3) := by decide +kernel
theorem dX11_ring_10 : decode cX11_ring 10 = .ok (.ireturn, 1) := by decide +kernel
theorem dX11_ring_11 : decode cX11_ring 11 = .ok (.aload_n 0, 1) := by decide +kernel
theorem dX11_ring_12 : decode cX11_ring 12 = .ok (.getfield 10, 3) := by decide +kernel
theorem dX11_ring_15 : decode cX11_ring 15 = .ok (.getfield 56, 3) := by decide +kernel
theorem dX11_ring_18 : decode cX11_ring 18 = .ok (.aload_n 0, 1) := by decide +kernel
theorem dX11_ring_19 : decode cX11_ring 19 = .ok (.getfield 38, 3) := by decide +kernel
theorem dX11_ring_22 : decode cX11_ring 22 = .ok (.invokevirtual 198, 3) := by decide +kernel
theorem dX11_ring_25 : decode cX11_ring 25 = .ok (.pop, 1) := by decide +kernel
theorem dX11_ring_26 : decode cX11_ring 26 = .ok (.iload_n 1, 1) := by decide +kernel
theorem dX11_ring_27 : decode cX11_ring 27 = .ok (.iconst (-1), 1) := by decide +kernel
theorem dX11_ring_28 : decode cX11_ring 28 = .ok (.if_icmp .ne 11, 3) := by decide +kernel
theorem dX11_ring_31 : decode cX11_ring 31 = .ok (.aload_n 0, 1) := by decide +kernel
theorem dX11_ring_32 : decode cX11_ring 32 = .ok (.getfield 38, 3) := by decide +kernel
theorem dX11_ring_35 : decode cX11_ring 35 = .ok (.getfield 95, 3) := by decide +kernel
theorem dX11_ring_38 : decode cX11_ring 38 = .ok (.ireturn, 1) := by decide +kernel
theorem dX11_ring_39 : decode cX11_ring 39 = .ok (.iload_n 1, 1) := by decide +kernel
theorem dX11_ring_40 : decode cX11_ring 40 = .ok (.aload_n 0, 1) := by decide +kernel
theorem dX11_ring_41 : decode cX11_ring 41 = .ok (.getfield 38, 3) := by decide +kernel
theorem dX11_ring_44 : decode cX11_ring 44 = .ok (.getfield 95, 3) := by decide +kernel
theorem dX11_ring_47 : decode cX11_ring 47 = .ok (.if_icmp .ge 14, 3) := by decide +kernel
theorem dX11_ring_50 : decode cX11_ring 50 = .ok (.aload_n 0, 1) := by decide +kernel
theorem dX11_ring_51 : decode cX11_ring 51 = .ok (.getfield 38, 3) := by decide +kernel
theorem dX11_ring_54 : decode cX11_ring 54 = .ok (.iload_n 1, 1) := by decide +kernel
theorem dX11_ring_55 : decode cX11_ring 55 = .ok (.invokevirtual 107, 3) := by decide +kernel
theorem dX11_ring_58 : decode cX11_ring 58 = .ok (.goto 8, 3) := by decide +kernel
theorem dX11_ring_61 : decode cX11_ring 61 = .ok (.aload_n 0, 1) := by decide +kernel
theorem dX11_ring_62 : decode cX11_ring 62 = .ok (.iconst 2, 1) := by decide +kernel
theorem dX11_ring_63 : decode cX11_ring 63 = .ok (.invokevirtual 67, 3) := by decide +kernel
theorem dX11_ring_66 : decode cX11_ring 66 = .ok (.ireturn, 1) := by decide +kernel
theorem dX11_apart_0 : decode cX11_apart 0 = .ok (.aload_n 0, 1) := by decide +kernel
theorem dX11_apart_1 : decode cX11_apart 1 = .ok (.getfield 10, 3) := by decide +kernel
theorem dX11_apart_4 : decode cX11_apart 4 = .ok (.getfield 56, 3) := by decide +kernel
theorem dX11_apart_7 : decode cX11_apart 7 = .ok (.aload_n 0, 1) := by decide +kernel
theorem dX11_apart_8 : decode cX11_apart 8 = .ok (.getfield 38, 3) := by decide +kernel
theorem dX11_apart_11 : decode cX11_apart 11 = .ok (.invokevirtual 198, 3) := by decide +kernel
theorem dX11_apart_14 : decode cX11_apart 14 = .ok (.istore_n 1, 1) := by decide +kernel
theorem dX11_apart_15 : decode cX11_apart 15 = .ok (.iload_n 1, 1) := by decide +kernel
theorem dX11_apart_16 : decode cX11_apart 16 = .ok (.iconst 2, 1) := by decide +kernel
theorem dX11_apart_17 : decode cX11_apart 17 = .ok (.if_icmp .ge 9, 3) := by decide +kernel
theorem dX11_apart_20 : decode cX11_apart 20 = .ok (.aload_n 0, 1) := by decide +kernel
theorem dX11_apart_21 : decode cX11_apart 21 = .ok (.iconst 2, 1) := by decide +kernel
theorem dX11_apart_22 : decode cX11_apart 22 = .ok (.invokevirtual 67, 3) := by decide +kernel
theorem dX11_apart_25 : decode cX11_apart 25 = .ok (.ireturn, 1) := by decide +kernel
theorem dX11_apart_26 : decode cX11_apart 26 = .ok (.aload_n 0, 1) := by decide +kernel
theorem dX11_apart_27 : decode cX11_apart 27 = .ok (.getfield 38, 3) := by decide +kernel
theorem dX11_apart_30 : decode cX11_apart 30 = .ok (.iload_n 1, 1) := by decide +kernel
theorem dX11_apart_31 : decode cX11_apart 31 = .ok (.iconst 1, 1) := by decide +kernel
theorem dX11_apart_32 : decode cX11_apart 32 = .ok (.isub, 1) := by decide +kernel
theorem dX11_apart_33 : decode cX11_apart 33 = .ok (.invokevirtual 107, 3) := by decide +kernel
theorem dX11_apart_36 : decode cX11_apart 36 = .ok (.aload_n 0, 1) := by decide +kernel
theorem dX11_apart_37 : decode cX11_apart 37 = .ok (.getfield 38, 3) := by decide +kernel
theorem dX11_apart_40 : decode cX11_apart 40 = .ok (.iconst 0, 1) := by decide +kernel
theorem dX11_apart_41 : decode cX11_apart 41 = .ok (.invokevirtual 107, 3) := by decide +kernel
theorem dX11_apart_44 : decode cX11_apart 44 = .ok (.isub, 1) := by decide +kernel
theorem dX11_apart_45 : decode cX11_apart 45 = .ok (.iload_n 1, 1) := by decide +kernel
theorem dX11_apart_46 : decode cX11_apart 46 = .ok (.iconst 1, 1) := by decide +kernel
theorem dX11_apart_47 : decode cX11_apart 47 = .ok (.isub, 1) := by decide +kernel
theorem dX11_apart_48 : decode cX11_apart 48 = .ok (.idiv, 1) := by decide +kernel
theorem dX11_apart_49 : decode cX11_apart 49 = .ok (.ireturn, 1) := by decide +kernel
theorem dX11_then_0 : decode cX11_then 0 = .ok (.iload_n 1, 1) := by decide +kernel
theorem dX11_then_1 : decode cX11_then 1 = .ok (.invokestatic 201, 3) := by decide +kernel
theorem dX11_then_4 : decode cX11_then 4 = .ok (.ifCond .eq 13, 3) := by decide +kernel
theorem dX11_then_7 : decode cX11_then 7 = .ok (.iload_n 2, 1) := by decide +kernel
theorem dX11_then_8 : decode cX11_then 8 = .ok (.iconst 0, 1) := by decide +kernel
theorem dX11_then_9 : decode cX11_then 9 = .ok (.bipush 6, 2) := by decide +kernel
theorem dX11_then_11 : decode cX11_then 11 = .ok (.invokestatic 63, 3) := by decide +kernel
theorem dX11_then_14 : decode cX11_then 14 = .ok (.ifCond .ne 9, 3) := by decide +kernel
theorem dX11_then_17 : decode cX11_then 17 = .ok (.aload_n 0, 1) := by decide +kernel
theorem dX11_then_18 : decode cX11_then 18 = .ok (.iconst 1, 1) := by decide +kernel
theorem dX11_then_19 : decode cX11_then 19 = .ok (.invokevirtual 67, 3) := by decide +kernel
theorem dX11_then_22 : decode cX11_then 22 = .ok (.ireturn, 1) := by decide +kernel
theorem dX11_then_23 : decode cX11_then 23 = .ok (.aload_n 0, 1) := by decide +kernel
theorem dX11_then_24 : decode cX11_then 24 = .ok (.iload_n 1, 1) := by decide +kernel
theorem dX11_then_25 : decode cX11_then 25 = .ok (.invokevirtual 204, 3) := by decide +kernel
theorem dX11_then_28 : decode cX11_then 28 = .ok (.iload_n 2, 1) := by decide +kernel
theorem dX11_then_29 : decode cX11_then 29 = .ok (.tableswitch 100 0 5 #[39, 47, 59, 67, 75, 83], 39) := by decide +kernel
theorem dX11_then_68 : decode cX11_then 68 = .ok (.aload_n 0, 1) := by decide +kernel
theorem dX11_then_69 : decode cX11_then 69 = .ok (.getfield 22, 3) := by decide +kernel
theorem dX11_then_72 : decode cX11_then 72 = .ok (.getfield 98, 3) := by decide +kernel
theorem dX11_then_75 : decode cX11_then 75 = .ok (.ireturn, 1) := by decide +kernel
theorem dX11_then_76 : decode cX11_then 76 = .ok (.aload_n 0, 1) := by decide +kernel
theorem dX11_then_77 : decode cX11_then 77 = .ok (.getfield 22, 3) := by decide +kernel
theorem dX11_then_80 : decode cX11_then 80 = .ok (.aload_n 0, 1) := by decide +kernel
theorem dX11_then_81 : decode cX11_then 81 = .ok (.getfield 42, 3) := by decide +kernel
theorem dX11_then_84 : decode cX11_then 84 = .ok (.invokevirtual 198, 3) := by decide +kernel
theorem dX11_then_87 : decode cX11_then 87 = .ok (.ireturn, 1) := by decide +kernel
theorem dX11_then_88 : decode cX11_then 88 = .ok (.aload_n 0, 1) := by decide +kernel
theorem dX11_then_89 : decode cX11_then 89 = .ok (.getfield 22, 3) := by decide +kernel
theorem dX11_then_92 : decode cX11_then 92 = .ok (.invokevirtual 195, 3) := by decide +kernel
theorem dX11_then_95 : decode cX11_then 95 = .ok (.ireturn, 1) := by decide +kernel
theorem dX11_then_96 : decode cX11_then 96 = .ok (.aload_n 0, 1) := by decide +kernel
theorem dX11_then_97 : decode cX11_then 97 = .ok (.getfield 22, 3) := by decide +kernel
theorem dX11_then_100 : decode cX11_then 100 = .ok (.getfield 207, 3) := by decide +kernel
theorem dX11_then_103 : decode cX11_then 103 = .ok (.ireturn, 1) := by decide +kernel
theorem dX11_then_104 : decode cX11_then 104 = .ok (.aload_n 0, 1) := by decide +kernel
theorem dX11_then_105 : decode cX11_then 105 = .ok (.getfield 22, 3) := by decide +kernel
theorem dX11_then_108 : decode cX11_then 108 = .ok (.getfield 210, 3) := by decide +kernel
theorem dX11_then_111 : decode cX11_then 111 = .ok (.ireturn, 1) := by decide +kernel
theorem dX11_then_112 : decode cX11_then 112 = .ok (.aload_n 0, 1) := by decide +kernel
theorem dX11_then_113 : decode cX11_then 113 = .ok (.getfield 22, 3) := by decide +kernel
theorem dX11_then_116 : decode cX11_then 116 = .ok (.aload_n 0, 1) := by decide +kernel
theorem dX11_then_117 : decode cX11_then 117 = .ok (.getfield 22, 3) := by decide +kernel
theorem dX11_then_120 : decode cX11_then 120 = .ok (.getfield 98, 3) := by decide +kernel
theorem dX11_then_123 : decode cX11_then 123 = .ok (.iconst 1, 1) := by decide +kernel
theorem dX11_then_124 : decode cX11_then 124 = .ok (.isub, 1) := by decide +kernel
theorem dX11_then_125 : decode cX11_then 125 = .ok (.invokevirtual 71, 3) := by decide +kernel
theorem dX11_then_128 : decode cX11_then 128 = .ok (.ireturn, 1) := by decide +kernel
theorem dX11_then_129 : decode cX11_then 129 = .ok (.aload_n 0, 1) := by decide +kernel
theorem dX11_then_130 : decode cX11_then 130 = .ok (.getfield 22, 3) := by decide +kernel
theorem dX11_then_133 : decode cX11_then 133 = .ok (.invokevirtual 213, 3) := by decide +kernel
theorem dX11_then_136 : decode cX11_then 136 = .ok (.ireturn, 1) := by decide +kernel
theorem dX11_wide_0 : decode cX11_wide 0 = .ok (.iload_n 1, 1) := by decide +kernel
theorem dX11_wide_1 : decode cX11_wide 1 = .ok (.invokestatic 201, 3) := by decide +kernel
theorem dX11_wide_4 : decode cX11_wide 4 = .ok (.ifCond .eq 13, 3) := by decide +kernel
theorem dX11_wide_7 : decode cX11_wide 7 = .ok (.iload_n 2, 1) := by decide +kernel
theorem dX11_wide_8 : decode cX11_wide 8 = .ok (.iconst 0, 1) := by decide +kernel
theorem dX11_wide_9 : decode cX11_wide 9 = .ok (.bipush 39, 2) := by decide +kernel
theorem dX11_wide_11 : decode cX11_wide 11 = .ok (.invokestatic 63, 3) := by decide +kernel
theorem dX11_wide_14 : decode cX11_wide 14 = .ok (.ifCond .ne 9, 3) := by decide +kernel
theorem dX11_wide_17 : decode cX11_wide 17 = .ok (.aload_n 0, 1) := by decide +kernel
theorem dX11_wide_18 : decode cX11_wide 18 = .ok (.iconst 1, 1) := by decide +kernel
theorem dX11_wide_19 : decode cX11_wide 19 = .ok (.invokevirtual 67, 3) := by decide +kernel
theorem dX11_wide_22 : decode cX11_wide 22 = .ok (.ireturn, 1) := by decide +kernel
theorem dX11_wide_23 : decode cX11_wide 23 = .ok (.aload_n 0, 1) := by decide +kernel
theorem dX11_wide_24 : decode cX11_wide 24 = .ok (.iload_n 1, 1) := by decide +kernel
theorem dX11_wide_25 : decode cX11_wide 25 = .ok (.invokevirtual 204, 3) := by decide +kernel
theorem dX11_wide_28 : decode cX11_wide 28 = .ok (.aload_n 0, 1) := by decide +kernel
theorem dX11_wide_29 : decode cX11_wide 29 = .ok (.getfield 22, 3) := by decide +kernel
theorem dX11_wide_32 : decode cX11_wide 32 = .ok (.iload_n 2, 1) := by decide +kernel
theorem dX11_wide_33 : decode cX11_wide 33 = .ok (.invokevirtual 59, 3) := by decide +kernel
theorem dX11_wide_36 : decode cX11_wide 36 = .ok (.ifCond .eq 14, 3) := by decide +kernel
theorem dX11_wide_39 : decode cX11_wide 39 = .ok (.aload_n 0, 1) := by decide +kernel
theorem dX11_wide_40 : decode cX11_wide 40 = .ok (.getfield 22, 3) := by decide +kernel
theorem dX11_wide_43 : decode cX11_wide 43 = .ok (.iload_n 2, 1) := by decide +kernel
theorem dX11_wide_44 : decode cX11_wide 44 = .ok (.invokevirtual 71, 3) := by decide +kernel
theorem dX11_wide_47 : decode cX11_wide 47 = .ok (.goto 8, 3) := by decide +kernel
theorem dX11_wide_50 : decode cX11_wide 50 = .ok (.aload_n 0, 1) := by decide +kernel
theorem dX11_wide_51 : decode cX11_wide 51 = .ok (.iconst 2, 1) := by decide +kernel
theorem dX11_wide_52 : decode cX11_wide 52 = .ok (.invokevirtual 67, 3) := by decide +kernel
theorem dX11_wide_55 : decode cX11_wide 55 = .ok (.ireturn, 1) := by decide +kernel
theorem dX11_pace_0 : decode cX11_pace 0 = .ok (.iload_n 1, 1) := by decide +kernel
theorem dX11_pace_1 : decode cX11_pace 1 = .ok (.invokestatic 201, 3) := by decide +kernel
theorem dX11_pace_4 : decode cX11_pace 4 = .ok (.ifCond .ne 9, 3) := by decide +kernel
theorem dX11_pace_7 : decode cX11_pace 7 = .ok (.aload_n 0, 1) := by decide +kernel
theorem dX11_pace_8 : decode cX11_pace 8 = .ok (.iconst 1, 1) := by decide +kernel
theorem dX11_pace_9 : decode cX11_pace 9 = .ok (.invokevirtual 67, 3) := by decide +kernel
theorem dX11_pace_12 : decode cX11_pace 12 = .ok (.ireturn, 1) := by decide +kernel
theorem dX11_pace_13 : decode cX11_pace 13 = .ok (.aload_n 0, 1) := by decide +kernel
theorem dX11_pace_14 : decode cX11_pace 14 = .ok (.getfield 10, 3) := by decide +kernel
theorem dX11_pace_17 : decode cX11_pace 17 = .ok (.getfield 56, 3) := by decide +kernel
theorem dX11_pace_20 : decode cX11_pace 20 = .ok (.aload_n 0, 1) := by decide +kernel
theorem dX11_pace_21 : decode cX11_pace 21 = .ok (.getfield 38, 3) := by decide +kernel
theorem dX11_pace_24 : decode cX11_pace 24 = .ok (.invokevirtual 198, 3) := by decide +kernel
theorem dX11_pace_27 : decode cX11_pace 27 = .ok (.istore_n 2, 1) := by decide +kernel
theorem dX11_pace_28 : decode cX11_pace 28 = .ok (.aload_n 0, 1) := by decide +kernel
theorem dX11_pace_29 : decode cX11_pace 29 = .ok (.iload_n 1, 1) := by decide +kernel
theorem dX11_pace_30 : decode cX11_pace 30 = .ok (.invokevirtual 204, 3) := by decide +kernel
theorem dX11_pace_33 : decode cX11_pace 33 = .ok (.iload_n 2, 1) := by decide +kernel
theorem dX11_pace_34 : decode cX11_pace 34 = .ok (.ifCond .eq 18, 3) := by decide +kernel
theorem dX11_pace_37 : decode cX11_pace 37 = .ok (.aload_n 0, 1) := by decide +kernel
theorem dX11_pace_38 : decode cX11_pace 38 = .ok (.getfield 22, 3) := by decide +kernel
theorem dX11_pace_41 : decode cX11_pace 41 = .ok (.aload_n 0, 1) := by decide +kernel
theorem dX11_pace_42 : decode cX11_pace 42 = .ok (.getfield 42, 3) := by decide +kernel
theorem dX11_pace_45 : decode cX11_pace 45 = .ok (.invokevirtual 198, 3) := by decide +kernel
theorem dX11_pace_48 : decode cX11_pace 48 = .ok (.iload_n 2, 1) := by decide +kernel
theorem dX11_pace_49 : decode cX11_pace 49 = .ok (.if_icmp .eq 9, 3) := by decide +kernel
theorem dX11_pace_52 : decode cX11_pace 52 = .ok (.aload_n 0, 1) := by decide +kernel
theorem dX11_pace_53 : decode cX11_pace 53 = .ok (.iconst 2, 1) := by decide +kernel
theorem dX11_pace_54 : decode cX11_pace 54 = .ok (.invokevirtual 67, 3) := by decide +kernel
theorem dX11_pace_57 : decode cX11_pace 57 = .ok (.ireturn, 1) := by decide +kernel
theorem dX11_pace_58 : decode cX11_pace 58 = .ok (.aload_n 0, 1) := by decide +kernel
theorem dX11_pace_59 : decode cX11_pace 59 = .ok (.getfield 42, 3) := by decide +kernel
theorem dX11_pace_62 : decode cX11_pace 62 = .ok (.invokevirtual 216, 3) := by decide +kernel
theorem dX11_pace_65 : decode cX11_pace 65 = .ok (.aload_n 0, 1) := by decide +kernel
theorem dX11_pace_66 : decode cX11_pace 66 = .ok (.getfield 38, 3) := by decide +kernel
theorem dX11_pace_69 : decode cX11_pace 69 = .ok (.invokevirtual 216, 3) := by decide +kernel
theorem dX11_pace_72 : decode cX11_pace 72 = .ok (.isub, 1) := by decide +kernel
theorem dX11_pace_73 : decode cX11_pace 73 = .ok (.ireturn, 1) := by decide +kernel
theorem dX11_needed_0 : decode cX11_needed 0 = .ok (.iload_n 1, 1) := by decide +kernel
theorem dX11_needed_1 : decode cX11_needed 1 = .ok (.invokestatic 201, 3) := by decide +kernel
theorem dX11_needed_4 : decode cX11_needed 4 = .ok (.ifCond .ne 9, 3) := by decide +kernel
theorem dX11_needed_7 : decode cX11_needed 7 = .ok (.aload_n 0, 1) := by decide +kernel
theorem dX11_needed_8 : decode cX11_needed 8 = .ok (.iconst 1, 1) := by decide +kernel
theorem dX11_needed_9 : decode cX11_needed 9 = .ok (.invokevirtual 67, 3) := by decide +kernel
theorem dX11_needed_12 : decode cX11_needed 12 = .ok (.ireturn, 1) := by decide +kernel
theorem dX11_needed_13 : decode cX11_needed 13 = .ok (.aload_n 0, 1) := by decide +kernel
theorem dX11_needed_14 : decode cX11_needed 14 = .ok (.iload_n 1, 1) := by decide +kernel
theorem dX11_needed_15 : decode cX11_needed 15 = .ok (.invokevirtual 204, 3) := by decide +kernel
theorem dX11_needed_18 : decode cX11_needed 18 = .ok (.aload_n 0, 1) := by decide +kernel
theorem dX11_needed_19 : decode cX11_needed 19 = .ok (.getfield 22, 3) := by decide +kernel
theorem dX11_needed_22 : decode cX11_needed 22 = .ok (.aload_n 0, 1) := by decide +kernel
theorem dX11_needed_23 : decode cX11_needed 23 = .ok (.getfield 42, 3) := by decide +kernel
theorem dX11_needed_26 : decode cX11_needed 26 = .ok (.invokevirtual 198, 3) := by decide +kernel
theorem dX11_needed_29 : decode cX11_needed 29 = .ok (.istore_n 2, 1) := by decide +kernel
theorem dX11_needed_30 : decode cX11_needed 30 = .ok (.iconst 0, 1) := by decide +kernel
theorem dX11_needed_31 : decode cX11_needed 31 = .ok (.istore_n 3, 1) := by decide +kernel
theorem dX11_needed_32 : decode cX11_needed 32 = .ok (.iconst 0, 1) := by decide +kernel
theorem dX11_needed_33 : decode cX11_needed 33 = .ok (.istore 4, 2) := by decide +kernel
theorem dX11_needed_35 : decode cX11_needed 35 = .ok (.iload 4, 2) := by decide +kernel
theorem dX11_needed_37 : decode cX11_needed 37 = .ok (.aload_n 0, 1) := by decide +kernel
theorem dX11_needed_38 : decode cX11_needed 38 = .ok (.getfield 10, 3) := by decide +kernel
theorem dX11_needed_41 : decode cX11_needed 41 = .ok (.getfield 56, 3) := by decide +kernel
theorem dX11_needed_44 : decode cX11_needed 44 = .ok (.getfield 117, 3) := by decide +kernel
theorem dX11_needed_47 : decode cX11_needed 47 = .ok (.if_icmp .ge 37, 3) := by decide +kernel
theorem dX11_needed_50 : decode cX11_needed 50 = .ok (.aload_n 0, 1) := by decide +kernel
theorem dX11_needed_51 : decode cX11_needed 51 = .ok (.iload 4, 2) := by decide +kernel
theorem dX11_needed_53 : decode cX11_needed 53 = .ok (.invokevirtual 143, 3) := by decide +kernel
theorem dX11_needed_56 : decode cX11_needed 56 = .ok (.iconst 1, 1) := by decide +kernel
theorem dX11_needed_57 : decode cX11_needed 57 = .ok (.if_icmp .ne 21, 3) := by decide +kernel
theorem dX11_needed_60 : decode cX11_needed 60 = .ok (.aload_n 0, 1) := by decide +kernel
theorem dX11_needed_61 : decode cX11_needed 61 = .ok (.iload 4, 2) := by decide +kernel
theorem dX11_needed_63 : decode cX11_needed 63 = .ok (.iload_n 1, 1) := by decide +kernel
theorem dX11_needed_64 : decode cX11_needed 64 = .ok (.invokevirtual 219, 3) := by decide +kernel
theorem dX11_needed_67 : decode cX11_needed 67 = .ok (.iload_n 2, 1) := by decide +kernel
theorem dX11_needed_68 : decode cX11_needed 68 = .ok (.if_icmp .ge 10, 3) := by decide +kernel
theorem dX11_needed_71 : decode cX11_needed 71 = .ok (.iload_n 3, 1) := by decide +kernel
theorem dX11_needed_72 : decode cX11_needed 72 = .ok (.iconst 1, 1) := by decide +kernel
theorem dX11_needed_73 : decode cX11_needed 73 = .ok (.iload 4, 2) := by decide +kernel
theorem dX11_needed_75 : decode cX11_needed 75 = .ok (.ishl, 1) := by decide +kernel
theorem dX11_needed_76 : decode cX11_needed 76 = .ok (.ior, 1) := by decide +kernel
theorem dX11_needed_77 : decode cX11_needed 77 = .ok (.istore_n 3, 1) := by decide +kernel
theorem dX11_needed_78 : decode cX11_needed 78 = .ok (.iinc 4 1, 3) := by decide +kernel
theorem dX11_needed_81 : decode cX11_needed 81 = .ok (.goto (-46), 3) := by decide +kernel
theorem dX11_needed_84 : decode cX11_needed 84 = .ok (.iload_n 3, 1) := by decide +kernel
theorem dX11_needed_85 : decode cX11_needed 85 = .ok (.ireturn, 1) := by decide +kernel
theorem dX11_ringsWithout_0 : decode cX11_ringsWithout 0 = .ok (.aload_n 0, 1) := by decide +kernel
theorem dX11_ringsWithout_1 : decode cX11_ringsWithout 1 = .ok (.getfield 22, 3) := by decide +kernel
theorem dX11_ringsWithout_4 : decode cX11_ringsWithout 4 = .ok (.aload_n 0, 1) := by decide +kernel
theorem dX11_ringsWithout_5 : decode cX11_ringsWithout 5 = .ok (.getfield 10, 3) := by decide +kernel
theorem dX11_ringsWithout_8 : decode cX11_ringsWithout 8 = .ok (.getfield 56, 3) := by decide +kernel
theorem dX11_ringsWithout_11 : decode cX11_ringsWithout 11 = .ok (.invokevirtual 222, 3) := by decide +kernel
theorem dX11_ringsWithout_14 : decode cX11_ringsWithout 14 = .ok (.aload_n 0, 1) := by decide +kernel
theorem dX11_ringsWithout_15 : decode cX11_ringsWithout 15 = .ok (.getfield 22, 3) := by decide +kernel
theorem dX11_ringsWithout_18 : decode cX11_ringsWithout 18 = .ok (.aload_n 0, 1) := by decide +kernel
theorem dX11_ringsWithout_19 : decode cX11_ringsWithout 19 = .ok (.getfield 22, 3) := by decide +kernel
theorem dX11_ringsWithout_22 : decode cX11_ringsWithout 22 = .ok (.getfield 128, 3) := by decide +kernel
theorem dX11_ringsWithout_25 : decode cX11_ringsWithout 25 = .ok (.iconst 1, 1) := by decide +kernel
theorem dX11_ringsWithout_26 : decode cX11_ringsWithout 26 = .ok (.iload_n 1, 1) := by decide +kernel
theorem dX11_ringsWithout_27 : decode cX11_ringsWithout 27 = .ok (.ishl, 1) := by decide +kernel
theorem dX11_ringsWithout_28 : decode cX11_ringsWithout 28 = .ok (.iconst (-1), 1) := by decide +kernel
theorem dX11_ringsWithout_29 : decode cX11_ringsWithout 29 = .ok (.ixor, 1) := by decide +kernel
theorem dX11_ringsWithout_30 : decode cX11_ringsWithout 30 = .ok (.iand, 1) := by decide +kernel
theorem dX11_ringsWithout_31 : decode cX11_ringsWithout 31 = .ok (.putfield 128, 3) := by decide +kernel
theorem dX11_ringsWithout_34 : decode cX11_ringsWithout 34 = .ok (.aload_n 0, 1) := by decide +kernel
theorem dX11_ringsWithout_35 : decode cX11_ringsWithout 35 = .ok (.getfield 22, 3) := by decide +kernel
theorem dX11_ringsWithout_38 : decode cX11_ringsWithout 38 = .ok (.iload_n 2, 1) := by decide +kernel
theorem dX11_ringsWithout_39 : decode cX11_ringsWithout 39 = .ok (.invokevirtual 185, 3) := by decide +kernel
theorem dX11_ringsWithout_42 : decode cX11_ringsWithout 42 = .ok (.aload_n 0, 1) := by decide +kernel
theorem dX11_ringsWithout_43 : decode cX11_ringsWithout 43 = .ok (.getfield 22, 3) := by decide +kernel
theorem dX11_ringsWithout_46 : decode cX11_ringsWithout 46 = .ok (.aload_n 0, 1) := by decide +kernel
theorem dX11_ringsWithout_47 : decode cX11_ringsWithout 47 = .ok (.getfield 42, 3) := by decide +kernel
theorem dX11_ringsWithout_50 : decode cX11_ringsWithout 50 = .ok (.invokevirtual 198, 3) := by decide +kernel
theorem dX11_ringsWithout_53 : decode cX11_ringsWithout 53 = .ok (.ireturn, 1) := by decide +kernel
theorem dX11_little_0 : decode cX11_little 0 = .ok (.iload_n 1, 1) := by decide +kernel
theorem dX11_little_1 : decode cX11_little 1 = .ok (.invokestatic 201, 3) := by decide +kernel
theorem dX11_little_4 : decode cX11_little 4 = .ok (.ifCond .eq 13, 3) := by decide +kernel
theorem dX11_little_7 : decode cX11_little 7 = .ok (.iload_n 2, 1) := by decide +kernel
theorem dX11_little_8 : decode cX11_little 8 = .ok (.iconst 0, 1) := by decide +kernel
theorem dX11_little_9 : decode cX11_little 9 = .ok (.bipush 40, 2) := by decide +kernel
theorem dX11_little_11 : decode cX11_little 11 = .ok (.invokestatic 63, 3) := by decide +kernel
theorem dX11_little_14 : decode cX11_little 14 = .ok (.ifCond .ne 9, 3) := by decide +kernel
theorem dX11_little_17 : decode cX11_little 17 = .ok (.aload_n 0, 1) := by decide +kernel
theorem dX11_little_18 : decode cX11_little 18 = .ok (.iconst 1, 1) := by decide +kernel
theorem dX11_little_19 : decode cX11_little 19 = .ok (.invokevirtual 67, 3) := by decide +kernel
theorem dX11_little_22 : decode cX11_little 22 = .ok (.ireturn, 1) := by decide +kernel
theorem dX11_little_23 : decode cX11_little 23 = .ok (.getstatic 226, 3) := by decide +kernel
theorem dX11_little_26 : decode cX11_little 26 = .ok (.iconst 1, 1) := by decide +kernel
theorem dX11_little_27 : decode cX11_little 27 = .ok (.iaload, 1) := by decide +kernel
theorem dX11_little_28 : decode cX11_little 28 = .ok (.istore_n 3, 1) := by decide +kernel
theorem dX11_little_29 : decode cX11_little 29 = .ok (.iload_n 3, 1) := by decide +kernel
theorem dX11_little_30 : decode cX11_little 30 = .ok (.getstatic 229, 3) := by decide +kernel
theorem dX11_little_33 : decode cX11_little 33 = .ok (.iconst 1, 1) := by decide +kernel
theorem dX11_little_34 : decode cX11_little 34 = .ok (.iaload, 1) := by decide +kernel
theorem dX11_little_35 : decode cX11_little 35 = .ok (.if_icmp .gt 58, 3) := by decide +kernel
theorem dX11_little_38 : decode cX11_little 38 = .ok (.aload_n 0, 1) := by decide +kernel
theorem dX11_little_39 : decode cX11_little 39 = .ok (.getfield 22, 3) := by decide +kernel
theorem dX11_little_42 : decode cX11_little 42 = .ok (.aload_n 0, 1) := by decide +kernel
theorem dX11_little_43 : decode cX11_little 43 = .ok (.getfield 10, 3) := by decide +kernel
theorem dX11_little_46 : decode cX11_little 46 = .ok (.getfield 56, 3) := by decide +kernel
theorem dX11_little_49 : decode cX11_little 49 = .ok (.invokevirtual 222, 3) := by decide +kernel
theorem dX11_little_52 : decode cX11_little 52 = .ok (.aload_n 0, 1) := by decide +kernel
theorem dX11_little_53 : decode cX11_little 53 = .ok (.getfield 22, 3) := by decide +kernel
theorem dX11_little_56 : decode cX11_little 56 = .ok (.getfield 114, 3) := by decide +kernel
theorem dX11_little_59 : decode cX11_little 59 = .ok (.iconst 1, 1) := by decide +kernel
theorem dX11_little_60 : decode cX11_little 60 = .ok (.iload_n 3, 1) := by decide +kernel
theorem dX11_little_61 : decode cX11_little 61 = .ok (.iastore, 1) := by decide +kernel
theorem dX11_little_62 : decode cX11_little 62 = .ok (.aload_n 0, 1) := by decide +kernel
theorem dX11_little_63 : decode cX11_little 63 = .ok (.getfield 22, 3) := by decide +kernel
theorem dX11_little_66 : decode cX11_little 66 = .ok (.iload_n 1, 1) := by decide +kernel
theorem dX11_little_67 : decode cX11_little 67 = .ok (.invokevirtual 185, 3) := by decide +kernel
theorem dX11_little_70 : decode cX11_little 70 = .ok (.aload_n 0, 1) := by decide +kernel
theorem dX11_little_71 : decode cX11_little 71 = .ok (.getfield 22, 3) := by decide +kernel
theorem dX11_little_74 : decode cX11_little 74 = .ok (.aload_n 0, 1) := by decide +kernel
theorem dX11_little_75 : decode cX11_little 75 = .ok (.getfield 42, 3) := by decide +kernel
theorem dX11_little_78 : decode cX11_little 78 = .ok (.invokevirtual 198, 3) := by decide +kernel
theorem dX11_little_81 : decode cX11_little 81 = .ok (.iload_n 2, 1) := by decide +kernel
theorem dX11_little_82 : decode cX11_little 82 = .ok (.if_icmp .lt 5, 3) := by decide +kernel
theorem dX11_little_85 : decode cX11_little 85 = .ok (.iload_n 3, 1) := by decide +kernel
theorem dX11_little_86 : decode cX11_little 86 = .ok (.ireturn, 1) := by decide +kernel
theorem dX11_little_87 : decode cX11_little 87 = .ok (.iinc 3 1, 3) := by decide +kernel
theorem dX11_little_90 : decode cX11_little 90 = .ok (.goto (-61), 3) := by decide +kernel
theorem dX11_little_93 : decode cX11_little 93 = .ok (.aload_n 0, 1) := by decide +kernel
theorem dX11_little_94 : decode cX11_little 94 = .ok (.iconst 2, 1) := by decide +kernel
theorem dX11_little_95 : decode cX11_little 95 = .ok (.invokevirtual 67, 3) := by decide +kernel
theorem dX11_little_98 : decode cX11_little 98 = .ok (.ireturn, 1) := by decide +kernel
theorem dX11_breaks_0 : decode cX11_breaks 0 = .ok (.iload_n 1, 1) := by decide +kernel
theorem dX11_breaks_1 : decode cX11_breaks 1 = .ok (.invokestatic 201, 3) := by decide +kernel
theorem dX11_breaks_4 : decode cX11_breaks 4 = .ok (.ifCond .ne 9, 3) := by decide +kernel
theorem dX11_breaks_7 : decode cX11_breaks 7 = .ok (.aload_n 0, 1) := by decide +kernel
theorem dX11_breaks_8 : decode cX11_breaks 8 = .ok (.iconst 1, 1) := by decide +kernel
theorem dX11_breaks_9 : decode cX11_breaks 9 = .ok (.invokevirtual 67, 3) := by decide +kernel
theorem dX11_breaks_12 : decode cX11_breaks 12 = .ok (.ireturn, 1) := by decide +kernel
theorem dX11_breaks_13 : decode cX11_breaks 13 = .ok (.aload_n 0, 1) := by decide +kernel
theorem dX11_breaks_14 : decode cX11_breaks 14 = .ok (.getfield 22, 3) := by decide +kernel
theorem dX11_breaks_17 : decode cX11_breaks 17 = .ok (.aload_n 0, 1) := by decide +kernel
theorem dX11_breaks_18 : decode cX11_breaks 18 = .ok (.getfield 10, 3) := by decide +kernel
theorem dX11_breaks_21 : decode cX11_breaks 21 = .ok (.getfield 56, 3) := by decide +kernel
theorem dX11_breaks_24 : decode cX11_breaks 24 = .ok (.invokevirtual 222, 3) := by decide +kernel
theorem dX11_breaks_27 : decode cX11_breaks 27 = .ok (.aload_n 0, 1) := by decide +kernel
theorem dX11_breaks_28 : decode cX11_breaks 28 = .ok (.getfield 22, 3) := by decide +kernel
theorem dX11_breaks_31 : decode cX11_breaks 31 = .ok (.iload_n 1, 1) := by decide +kernel
theorem dX11_breaks_32 : decode cX11_breaks 32 = .ok (.invokevirtual 232, 3) := by decide +kernel
theorem dX11_breaks_35 : decode cX11_breaks 35 = .ok (.istore_n 2, 1) := by decide +kernel
theorem dX11_breaks_36 : decode cX11_breaks 36 = .ok (.iload_n 2, 1) := by decide +kernel
theorem dX11_breaks_37 : decode cX11_breaks 37 = .ok (.ifCond .lt 7, 3) := by decide +kernel
theorem dX11_breaks_40 : decode cX11_breaks 40 = .ok (.iload_n 2, 1) := by decide +kernel
theorem dX11_breaks_41 : decode cX11_breaks 41 = .ok (.goto 8, 3) := by decide +kernel
theorem dX11_breaks_44 : decode cX11_breaks 44 = .ok (.aload_n 0, 1) := by decide +kernel
theorem dX11_breaks_45 : decode cX11_breaks 45 = .ok (.iconst 2, 1) := by decide +kernel
theorem dX11_breaks_46 : decode cX11_breaks 46 = .ok (.invokevirtual 67, 3) := by decide +kernel
theorem dX11_breaks_49 : decode cX11_breaks 49 = .ok (.ireturn, 1) := by decide +kernel
theorem dX11_falls_0 : decode cX11_falls 0 = .ok (.iload_n 1, 1) := by decide +kernel
theorem dX11_falls_1 : decode cX11_falls 1 = .ok (.invokestatic 201, 3) := by decide +kernel
theorem dX11_falls_4 : decode cX11_falls 4 = .ok (.ifCond .ne 9, 3) := by decide +kernel
theorem dX11_falls_7 : decode cX11_falls 7 = .ok (.aload_n 0, 1) := by decide +kernel
theorem dX11_falls_8 : decode cX11_falls 8 = .ok (.iconst 1, 1) := by decide +kernel
theorem dX11_falls_9 : decode cX11_falls 9 = .ok (.invokevirtual 67, 3) := by decide +kernel
theorem dX11_falls_12 : decode cX11_falls 12 = .ok (.ireturn, 1) := by decide +kernel
theorem dX11_falls_13 : decode cX11_falls 13 = .ok (.getstatic 229, 3) := by decide +kernel
theorem dX11_falls_16 : decode cX11_falls 16 = .ok (.iconst 2, 1) := by decide +kernel
theorem dX11_falls_17 : decode cX11_falls 17 = .ok (.iaload, 1) := by decide +kernel
theorem dX11_falls_18 : decode cX11_falls 18 = .ok (.istore_n 2, 1) := by decide +kernel
theorem dX11_falls_19 : decode cX11_falls 19 = .ok (.iload_n 2, 1) := by decide +kernel
theorem dX11_falls_20 : decode cX11_falls 20 = .ok (.getstatic 226, 3) := by decide +kernel
theorem dX11_falls_23 : decode cX11_falls 23 = .ok (.iconst 2, 1) := by decide +kernel
theorem dX11_falls_24 : decode cX11_falls 24 = .ok (.iaload, 1) := by decide +kernel
theorem dX11_falls_25 : decode cX11_falls 25 = .ok (.if_icmp .lt 46, 3) := by decide +kernel
theorem dX11_falls_28 : decode cX11_falls 28 = .ok (.aload_n 0, 1) := by decide +kernel
theorem dX11_falls_29 : decode cX11_falls 29 = .ok (.getfield 22, 3) := by decide +kernel
theorem dX11_falls_32 : decode cX11_falls 32 = .ok (.aload_n 0, 1) := by decide +kernel
theorem dX11_falls_33 : decode cX11_falls 33 = .ok (.getfield 10, 3) := by decide +kernel
theorem dX11_falls_36 : decode cX11_falls 36 = .ok (.getfield 56, 3) := by decide +kernel
theorem dX11_falls_39 : decode cX11_falls 39 = .ok (.invokevirtual 222, 3) := by decide +kernel
theorem dX11_falls_42 : decode cX11_falls 42 = .ok (.aload_n 0, 1) := by decide +kernel
theorem dX11_falls_43 : decode cX11_falls 43 = .ok (.getfield 22, 3) := by decide +kernel
theorem dX11_falls_46 : decode cX11_falls 46 = .ok (.getfield 114, 3) := by decide +kernel
theorem dX11_falls_49 : decode cX11_falls 49 = .ok (.iconst 2, 1) := by decide +kernel
theorem dX11_falls_50 : decode cX11_falls 50 = .ok (.iload_n 2, 1) := by decide +kernel
theorem dX11_falls_51 : decode cX11_falls 51 = .ok (.iastore, 1) := by decide +kernel
theorem dX11_falls_52 : decode cX11_falls 52 = .ok (.aload_n 0, 1) := by decide +kernel
theorem dX11_falls_53 : decode cX11_falls 53 = .ok (.getfield 22, 3) := by decide +kernel
theorem dX11_falls_56 : decode cX11_falls 56 = .ok (.iload_n 1, 1) := by decide +kernel
theorem dX11_falls_57 : decode cX11_falls 57 = .ok (.invokevirtual 232, 3) := by decide +kernel
theorem dX11_falls_60 : decode cX11_falls 60 = .ok (.ifCond .ge 5, 3) := by decide +kernel
theorem dX11_falls_63 : decode cX11_falls 63 = .ok (.iload_n 2, 1) := by decide +kernel
theorem dX11_falls_64 : decode cX11_falls 64 = .ok (.ireturn, 1) := by decide +kernel
theorem dX11_falls_65 : decode cX11_falls 65 = .ok (.iinc 2 (-1), 3) := by decide +kernel
theorem dX11_falls_68 : decode cX11_falls 68 = .ok (.goto (-49), 3) := by decide +kernel
theorem dX11_falls_71 : decode cX11_falls 71 = .ok (.aload_n 0, 1) := by decide +kernel
theorem dX11_falls_72 : decode cX11_falls 72 = .ok (.iconst 2, 1) := by decide +kernel
theorem dX11_falls_73 : decode cX11_falls 73 = .ok (.invokevirtual 67, 3) := by decide +kernel
theorem dX11_falls_76 : decode cX11_falls 76 = .ok (.ireturn, 1) := by decide +kernel
theorem dX11_off_0 : decode cX11_off 0 = .ok (.iload_n 1, 1) := by decide +kernel
theorem dX11_off_1 : decode cX11_off 1 = .ok (.invokestatic 88, 3) := by decide +kernel
theorem dX11_off_4 : decode cX11_off 4 = .ok (.ifCond .ne 9, 3) := by decide +kernel
theorem dX11_off_7 : decode cX11_off 7 = .ok (.aload_n 0, 1) := by decide +kernel
theorem dX11_off_8 : decode cX11_off 8 = .ok (.iconst 1, 1) := by decide +kernel
theorem dX11_off_9 : decode cX11_off 9 = .ok (.invokevirtual 67, 3) := by decide +kernel
theorem dX11_off_12 : decode cX11_off 12 = .ok (.ireturn, 1) := by decide +kernel
theorem dX11_off_13 : decode cX11_off 13 = .ok (.aload_n 0, 1) := by decide +kernel
theorem dX11_off_14 : decode cX11_off 14 = .ok (.getfield 28, 3) := by decide +kernel
theorem dX11_off_17 : decode cX11_off 17 = .ok (.iload_n 1, 1) := by decide +kernel
theorem dX11_off_18 : decode cX11_off 18 = .ok (.aaload, 1) := by decide +kernel
theorem dX11_off_19 : decode cX11_off 19 = .ok (.invokevirtual 91, 3) := by decide +kernel
theorem dX11_off_22 : decode cX11_off 22 = .ok (.ifCond .eq 11, 3) := by decide +kernel
theorem dX11_off_25 : decode cX11_off 25 = .ok (.aload_n 0, 1) := by decide +kernel
theorem dX11_off_26 : decode cX11_off 26 = .ok (.iconst 2, 1) := by decide +kernel
theorem dX11_off_27 : decode cX11_off 27 = .ok (.invokevirtual 67, 3) := by decide +kernel
theorem dX11_off_30 : decode cX11_off 30 = .ok (.goto 19, 3) := by decide +kernel
theorem dX11_off_33 : decode cX11_off 33 = .ok (.aload_n 0, 1) := by decide +kernel
theorem dX11_off_34 : decode cX11_off 34 = .ok (.getfield 10, 3) := by decide +kernel
theorem dX11_off_37 : decode cX11_off 37 = .ok (.getfield 56, 3) := by decide +kernel
theorem dX11_off_40 : decode cX11_off 40 = .ok (.aload_n 0, 1) := by decide +kernel
theorem dX11_off_41 : decode cX11_off 41 = .ok (.getfield 28, 3) := by decide +kernel
theorem dX11_off_44 : decode cX11_off 44 = .ok (.iload_n 1, 1) := by decide +kernel
theorem dX11_off_45 : decode cX11_off 45 = .ok (.aaload, 1) := by decide +kernel
theorem dX11_off_46 : decode cX11_off 46 = .ok (.invokevirtual 235, 3) := by decide +kernel
theorem dX11_off_49 : decode cX11_off 49 = .ok (.ireturn, 1) := by decide +kernel
theorem dX11_made_0 : decode cX11_made 0 = .ok (.iload_n 1, 1) := by decide +kernel
theorem dX11_made_1 : decode cX11_made 1 = .ok (.invokestatic 88, 3) := by decide +kernel
theorem dX11_made_4 : decode cX11_made 4 = .ok (.ifCond .eq 19, 3) := by decide +kernel
theorem dX11_made_7 : decode cX11_made 7 = .ok (.iload_n 2, 1) := by decide +kernel
theorem dX11_made_8 : decode cX11_made 8 = .ok (.invokestatic 201, 3) := by decide +kernel
theorem dX11_made_11 : decode cX11_made 11 = .ok (.ifCond .eq 12, 3) := by decide +kernel
theorem dX11_made_14 : decode cX11_made 14 = .ok (.iload_n 3, 1) := by decide +kernel
theorem dX11_made_15 : decode cX11_made 15 = .ok (.iconst 0, 1) := by decide +kernel
theorem dX11_made_16 : decode cX11_made 16 = .ok (.iconst 1, 1) := by decide +kernel
theorem dX11_made_17 : decode cX11_made 17 = .ok (.invokestatic 63, 3) := by decide +kernel
theorem dX11_made_20 : decode cX11_made 20 = .ok (.ifCond .ne 9, 3) := by decide +kernel
theorem dX11_made_23 : decode cX11_made 23 = .ok (.aload_n 0, 1) := by decide +kernel
theorem dX11_made_24 : decode cX11_made 24 = .ok (.iconst 1, 1) := by decide +kernel
theorem dX11_made_25 : decode cX11_made 25 = .ok (.invokevirtual 67, 3) := by decide +kernel
theorem dX11_made_28 : decode cX11_made 28 = .ok (.ireturn, 1) := by decide +kernel
theorem dX11_made_29 : decode cX11_made 29 = .ok (.aload_n 0, 1) := by decide +kernel
theorem dX11_made_30 : decode cX11_made 30 = .ok (.getfield 28, 3) := by decide +kernel
theorem dX11_made_33 : decode cX11_made 33 = .ok (.iload_n 1, 1) := by decide +kernel
theorem dX11_made_34 : decode cX11_made 34 = .ok (.aaload, 1) := by decide +kernel
theorem dX11_made_35 : decode cX11_made 35 = .ok (.invokevirtual 91, 3) := by decide +kernel
theorem dX11_made_38 : decode cX11_made 38 = .ok (.ifCond .eq 9, 3) := by decide +kernel
theorem dX11_made_41 : decode cX11_made 41 = .ok (.aload_n 0, 1) := by decide +kernel
theorem dX11_made_42 : decode cX11_made 42 = .ok (.iconst 2, 1) := by decide +kernel
theorem dX11_made_43 : decode cX11_made 43 = .ok (.invokevirtual 67, 3) := by decide +kernel
theorem dX11_made_46 : decode cX11_made 46 = .ok (.ireturn, 1) := by decide +kernel
theorem dX11_made_47 : decode cX11_made 47 = .ok (.iconst 0, 1) := by decide +kernel
theorem dX11_made_48 : decode cX11_made 48 = .ok (.istore 4, 2) := by decide +kernel
theorem dX11_made_50 : decode cX11_made 50 = .ok (.iconst (-1), 1) := by decide +kernel
theorem dX11_made_51 : decode cX11_made 51 = .ok (.istore 5, 2) := by decide +kernel
theorem dX11_made_53 : decode cX11_made 53 = .ok (.iconst 1, 1) := by decide +kernel
theorem dX11_made_54 : decode cX11_made 54 = .ok (.aload_n 0, 1) := by decide +kernel
theorem dX11_made_55 : decode cX11_made 55 = .ok (.getfield 10, 3) := by decide +kernel
theorem dX11_made_58 : decode cX11_made 58 = .ok (.getfield 56, 3) := by decide +kernel
theorem dX11_made_61 : decode cX11_made 61 = .ok (.getfield 117, 3) := by decide +kernel
theorem dX11_made_64 : decode cX11_made 64 = .ok (.ishl, 1) := by decide +kernel
theorem dX11_made_65 : decode cX11_made 65 = .ok (.istore 6, 2) := by decide +kernel
theorem dX11_made_67 : decode cX11_made 67 = .ok (.iconst 0, 1) := by decide +kernel
theorem dX11_made_68 : decode cX11_made 68 = .ok (.istore 7, 2) := by decide +kernel
theorem dX11_made_70 : decode cX11_made 70 = .ok (.iload 7, 2) := by decide +kernel
theorem dX11_made_72 : decode cX11_made 72 = .ok (.iload 6, 2) := by decide +kernel
theorem dX11_made_74 : decode cX11_made 74 = .ok (.if_icmp .ge 65, 3) := by decide +kernel
theorem dX11_made_77 : decode cX11_made 77 = .ok (.aload_n 0, 1) := by decide +kernel
theorem dX11_made_78 : decode cX11_made 78 = .ok (.invokevirtual 238, 3) := by decide +kernel
theorem dX11_made_81 : decode cX11_made 81 = .ok (.aload_n 0, 1) := by decide +kernel
theorem dX11_made_82 : decode cX11_made 82 = .ok (.getfield 22, 3) := by decide +kernel
theorem dX11_made_85 : decode cX11_made 85 = .ok (.iload 7, 2) := by decide +kernel
theorem dX11_made_87 : decode cX11_made 87 = .ok (.putfield 128, 3) := by decide +kernel
theorem dX11_made_90 : decode cX11_made 90 = .ok (.aload_n 0, 1) := by decide +kernel
theorem dX11_made_91 : decode cX11_made 91 = .ok (.getfield 22, 3) := by decide +kernel
theorem dX11_made_94 : decode cX11_made 94 = .ok (.iload_n 2, 1) := by decide +kernel
theorem dX11_made_95 : decode cX11_made 95 = .ok (.invokevirtual 185, 3) := by decide +kernel
theorem dX11_made_98 : decode cX11_made 98 = .ok (.aload_n 0, 1) := by decide +kernel
theorem dX11_made_99 : decode cX11_made 99 = .ok (.getfield 22, 3) := by decide +kernel
theorem dX11_made_102 : decode cX11_made 102 = .ok (.aload_n 0, 1) := by decide +kernel
theorem dX11_made_103 : decode cX11_made 103 = .ok (.getfield 28, 3) := by decide +kernel
theorem dX11_made_106 : decode cX11_made 106 = .ok (.iload_n 1, 1) := by decide +kernel
theorem dX11_made_107 : decode cX11_made 107 = .ok (.aaload, 1) := by decide +kernel
theorem dX11_made_108 : decode cX11_made 108 = .ok (.invokevirtual 235, 3) := by decide +kernel
theorem dX11_made_111 : decode cX11_made 111 = .ok (.istore 8, 2) := by decide +kernel
theorem dX11_made_113 : decode cX11_made 113 = .ok (.iload 5, 2) := by decide +kernel
theorem dX11_made_115 : decode cX11_made 115 = .ok (.ifCond .lt 10, 3) := by decide +kernel
theorem dX11_made_118 : decode cX11_made 118 = .ok (.iload 8, 2) := by decide +kernel
theorem dX11_made_120 : decode cX11_made 120 = .ok (.iload 5, 2) := by decide +kernel
theorem dX11_made_122 : decode cX11_made 122 = .ok (.if_icmp .ge 11, 3) := by decide +kernel
theorem dX11_made_125 : decode cX11_made 125 = .ok (.iload 8, 2) := by decide +kernel
theorem dX11_made_127 : decode cX11_made 127 = .ok (.istore 5, 2) := by decide +kernel
theorem dX11_made_129 : decode cX11_made 129 = .ok (.iload 7, 2) := by decide +kernel
theorem dX11_made_131 : decode cX11_made 131 = .ok (.istore 4, 2) := by decide +kernel
theorem dX11_made_133 : decode cX11_made 133 = .ok (.iinc 7 1, 3) := by decide +kernel
theorem dX11_made_136 : decode cX11_made 136 = .ok (.goto (-66), 3) := by decide +kernel
theorem dX11_made_139 : decode cX11_made 139 = .ok (.iload_n 3, 1) := by decide +kernel
theorem dX11_made_140 : decode cX11_made 140 = .ok (.ifCond .ne 8, 3) := by decide +kernel
theorem dX11_made_143 : decode cX11_made 143 = .ok (.iload 4, 2) := by decide +kernel
theorem dX11_made_145 : decode cX11_made 145 = .ok (.goto 5, 3) := by decide +kernel
theorem dX11_made_148 : decode cX11_made 148 = .ok (.iload 5, 2) := by decide +kernel
theorem dX11_made_150 : decode cX11_made 150 = .ok (.ireturn, 1) := by decide +kernel
theorem dX11_blown_0 : decode cX11_blown 0 = .ok (.iload_n 1, 1) := by decide +kernel
theorem dX11_blown_1 : decode cX11_blown 1 = .ok (.invokestatic 88, 3) := by decide +kernel
theorem dX11_blown_4 : decode cX11_blown 4 = .ok (.ifCond .eq 10, 3) := by decide +kernel
theorem dX11_blown_7 : decode cX11_blown 7 = .ok (.iload_n 2, 1) := by decide +kernel
theorem dX11_blown_8 : decode cX11_blown 8 = .ok (.invokestatic 201, 3) := by decide +kernel
theorem dX11_blown_11 : decode cX11_blown 11 = .ok (.ifCond .ne 9, 3) := by decide +kernel
theorem dX11_blown_14 : decode cX11_blown 14 = .ok (.aload_n 0, 1) := by decide +kernel
theorem dX11_blown_15 : decode cX11_blown 15 = .ok (.iconst 1, 1) := by decide +kernel
theorem dX11_blown_16 : decode cX11_blown 16 = .ok (.invokevirtual 67, 3) := by decide +kernel
theorem dX11_blown_19 : decode cX11_blown 19 = .ok (.ireturn, 1) := by decide +kernel
theorem dX11_blown_20 : decode cX11_blown 20 = .ok (.aload_n 0, 1) := by decide +kernel
theorem dX11_blown_21 : decode cX11_blown 21 = .ok (.getfield 28, 3) := by decide +kernel
theorem dX11_blown_24 : decode cX11_blown 24 = .ok (.iload_n 1, 1) := by decide +kernel
theorem dX11_blown_25 : decode cX11_blown 25 = .ok (.aaload, 1) := by decide +kernel
theorem dX11_blown_26 : decode cX11_blown 26 = .ok (.invokevirtual 91, 3) := by decide +kernel
theorem dX11_blown_29 : decode cX11_blown 29 = .ok (.ifCond .eq 9, 3) := by decide +kernel
theorem dX11_blown_32 : decode cX11_blown 32 = .ok (.aload_n 0, 1) := by decide +kernel
theorem dX11_blown_33 : decode cX11_blown 33 = .ok (.iconst 2, 1) := by decide +kernel
theorem dX11_blown_34 : decode cX11_blown 34 = .ok (.invokevirtual 67, 3) := by decide +kernel
theorem dX11_blown_37 : decode cX11_blown 37 = .ok (.ireturn, 1) := by decide +kernel
theorem dX11_blown_38 : decode cX11_blown 38 = .ok (.iconst 0, 1) := by decide +kernel
theorem dX11_blown_39 : decode cX11_blown 39 = .ok (.istore_n 3, 1) := by decide +kernel
theorem dX11_blown_40 : decode cX11_blown 40 = .ok (.iconst (-1), 1) := by decide +kernel
theorem dX11_blown_41 : decode cX11_blown 41 = .ok (.istore 4, 2) := by decide +kernel
theorem dX11_blown_43 : decode cX11_blown 43 = .ok (.getstatic 226, 3) := by decide +kernel
theorem dX11_blown_46 : decode cX11_blown 46 = .ok (.iconst 3, 1) := by decide +kernel
theorem dX11_blown_47 : decode cX11_blown 47 = .ok (.iaload, 1) := by decide +kernel
theorem dX11_blown_48 : decode cX11_blown 48 = .ok (.istore 5, 2) := by decide +kernel
theorem dX11_blown_50 : decode cX11_blown 50 = .ok (.iload 5, 2) := by decide +kernel
theorem dX11_blown_52 : decode cX11_blown 52 = .ok (.getstatic 229, 3) := by decide +kernel
theorem dX11_blown_55 : decode cX11_blown 55 = .ok (.iconst 3, 1) := by decide +kernel
theorem dX11_blown_56 : decode cX11_blown 56 = .ok (.iaload, 1) := by decide +kernel
theorem dX11_blown_57 : decode cX11_blown 57 = .ok (.if_icmp .gt 66, 3) := by decide +kernel
theorem dX11_blown_60 : decode cX11_blown 60 = .ok (.aload_n 0, 1) := by decide +kernel
theorem dX11_blown_61 : decode cX11_blown 61 = .ok (.invokevirtual 238, 3) := by decide +kernel
theorem dX11_blown_64 : decode cX11_blown 64 = .ok (.aload_n 0, 1) := by decide +kernel
theorem dX11_blown_65 : decode cX11_blown 65 = .ok (.getfield 22, 3) := by decide +kernel
theorem dX11_blown_68 : decode cX11_blown 68 = .ok (.getfield 114, 3) := by decide +kernel
theorem dX11_blown_71 : decode cX11_blown 71 = .ok (.iconst 3, 1) := by decide +kernel
theorem dX11_blown_72 : decode cX11_blown 72 = .ok (.iload 5, 2) := by decide +kernel
theorem dX11_blown_74 : decode cX11_blown 74 = .ok (.iastore, 1) := by decide +kernel
theorem dX11_blown_75 : decode cX11_blown 75 = .ok (.aload_n 0, 1) := by decide +kernel
theorem dX11_blown_76 : decode cX11_blown 76 = .ok (.getfield 22, 3) := by decide +kernel
theorem dX11_blown_79 : decode cX11_blown 79 = .ok (.iload_n 2, 1) := by decide +kernel
theorem dX11_blown_80 : decode cX11_blown 80 = .ok (.invokevirtual 185, 3) := by decide +kernel
theorem dX11_blown_83 : decode cX11_blown 83 = .ok (.aload_n 0, 1) := by decide +kernel
theorem dX11_blown_84 : decode cX11_blown 84 = .ok (.getfield 22, 3) := by decide +kernel
theorem dX11_blown_87 : decode cX11_blown 87 = .ok (.aload_n 0, 1) := by decide +kernel
theorem dX11_blown_88 : decode cX11_blown 88 = .ok (.getfield 28, 3) := by decide +kernel
theorem dX11_blown_91 : decode cX11_blown 91 = .ok (.iload_n 1, 1) := by decide +kernel
theorem dX11_blown_92 : decode cX11_blown 92 = .ok (.aaload, 1) := by decide +kernel
theorem dX11_blown_93 : decode cX11_blown 93 = .ok (.invokevirtual 235, 3) := by decide +kernel
theorem dX11_blown_96 : decode cX11_blown 96 = .ok (.istore 6, 2) := by decide +kernel
theorem dX11_blown_98 : decode cX11_blown 98 = .ok (.iload 4, 2) := by decide +kernel
theorem dX11_blown_100 : decode cX11_blown 100 = .ok (.ifCond .lt 10, 3) := by decide +kernel
theorem dX11_blown_103 : decode cX11_blown 103 = .ok (.iload 6, 2) := by decide +kernel
theorem dX11_blown_105 : decode cX11_blown 105 = .ok (.iload 4, 2) := by decide +kernel
theorem dX11_blown_107 : decode cX11_blown 107 = .ok (.if_icmp .ge 10, 3) := by decide +kernel
theorem dX11_blown_110 : decode cX11_blown 110 = .ok (.iload 6, 2) := by decide +kernel
theorem dX11_blown_112 : decode cX11_blown 112 = .ok (.istore 4, 2) := by decide +kernel
theorem dX11_blown_114 : decode cX11_blown 114 = .ok (.iload 5, 2) := by decide +kernel
theorem dX11_blown_116 : decode cX11_blown 116 = .ok (.istore_n 3, 1) := by decide +kernel
theorem dX11_blown_117 : decode cX11_blown 117 = .ok (.iinc 5 1, 3) := by decide +kernel
theorem dX11_blown_120 : decode cX11_blown 120 = .ok (.goto (-70), 3) := by decide +kernel
theorem dX11_blown_123 : decode cX11_blown 123 = .ok (.iload_n 3, 1) := by decide +kernel
theorem dX11_blown_124 : decode cX11_blown 124 = .ok (.ireturn, 1) := by decide +kernel
theorem dX11_box_0 : decode cX11_box 0 = .ok (.iconst 2, 1) := by decide +kernel
theorem dX11_box_1 : decode cX11_box 1 = .ok (.iload_n 1, 1) := by decide +kernel
theorem dX11_box_2 : decode cX11_box 2 = .ok (.invokestatic 110, 3) := by decide +kernel
theorem dX11_box_5 : decode cX11_box 5 = .ok (.ifCond .eq 19, 3) := by decide +kernel
theorem dX11_box_8 : decode cX11_box 8 = .ok (.iconst 3, 1) := by decide +kernel
theorem dX11_box_9 : decode cX11_box 9 = .ok (.iload_n 2, 1) := by decide +kernel
theorem dX11_box_10 : decode cX11_box 10 = .ok (.invokestatic 110, 3) := by decide +kernel
theorem dX11_box_13 : decode cX11_box 13 = .ok (.ifCond .eq 11, 3) := by decide +kernel
theorem dX11_box_16 : decode cX11_box 16 = .ok (.iconst 1, 1) := by decide +kernel
theorem dX11_box_17 : decode cX11_box 17 = .ok (.iload_n 3, 1) := by decide +kernel
theorem dX11_box_18 : decode cX11_box 18 = .ok (.invokestatic 110, 3) := by decide +kernel
theorem dX11_box_21 : decode cX11_box 21 = .ok (.ifCond .ne 9, 3) := by decide +kernel
theorem dX11_box_24 : decode cX11_box 24 = .ok (.aload_n 0, 1) := by decide +kernel
theorem dX11_box_25 : decode cX11_box 25 = .ok (.iconst 1, 1) := by decide +kernel
theorem dX11_box_26 : decode cX11_box 26 = .ok (.invokevirtual 67, 3) := by decide +kernel
theorem dX11_box_29 : decode cX11_box 29 = .ok (.ireturn, 1) := by decide +kernel
theorem dX11_box_30 : decode cX11_box 30 = .ok (.aload_n 0, 1) := by decide +kernel
theorem dX11_box_31 : decode cX11_box 31 = .ok (.getfield 10, 3) := by decide +kernel
theorem dX11_box_34 : decode cX11_box 34 = .ok (.invokevirtual 241, 3) := by decide +kernel
theorem dX11_box_37 : decode cX11_box 37 = .ok (.istore 4, 2) := by decide +kernel
theorem dX11_box_39 : decode cX11_box 39 = .ok (.iload 4, 2) := by decide +kernel
theorem dX11_box_41 : decode cX11_box 41 = .ok (.iconst 5, 1) := by decide +kernel
theorem dX11_box_42 : decode cX11_box 42 = .ok (.if_icmp .lt 9, 3) := by decide +kernel
theorem dX11_box_45 : decode cX11_box 45 = .ok (.aload_n 0, 1) := by decide +kernel
theorem dX11_box_46 : decode cX11_box 46 = .ok (.iconst 4, 1) := by decide +kernel
theorem dX11_box_47 : decode cX11_box 47 = .ok (.invokevirtual 67, 3) := by decide +kernel
theorem dX11_box_50 : decode cX11_box 50 = .ok (.ireturn, 1) := by decide +kernel
theorem dX11_box_51 : decode cX11_box 51 = .ok (.aload_n 0, 1) := by decide +kernel
theorem dX11_box_52 : decode cX11_box 52 = .ok (.getfield 10, 3) := by decide +kernel
theorem dX11_box_55 : decode cX11_box 55 = .ok (.getfield 244, 3) := by decide +kernel
theorem dX11_box_58 : decode cX11_box 58 = .ok (.iload_n 1, 1) := by decide +kernel
theorem dX11_box_59 : decode cX11_box 59 = .ok (.invokevirtual 161, 3) := by decide +kernel
theorem dX11_box_62 : decode cX11_box 62 = .ok (.aload_n 0, 1) := by decide +kernel
theorem dX11_box_63 : decode cX11_box 63 = .ok (.getfield 10, 3) := by decide +kernel
theorem dX11_box_66 : decode cX11_box 66 = .ok (.getfield 244, 3) := by decide +kernel
theorem dX11_box_69 : decode cX11_box 69 = .ok (.iload_n 2, 1) := by decide +kernel
theorem dX11_box_70 : decode cX11_box 70 = .ok (.invokevirtual 161, 3) := by decide +kernel
theorem dX11_box_73 : decode cX11_box 73 = .ok (.aload_n 0, 1) := by decide +kernel
theorem dX11_box_74 : decode cX11_box 74 = .ok (.getfield 10, 3) := by decide +kernel
theorem dX11_box_77 : decode cX11_box 77 = .ok (.getfield 244, 3) := by decide +kernel
theorem dX11_box_80 : decode cX11_box 80 = .ok (.iload_n 3, 1) := by decide +kernel
theorem dX11_box_81 : decode cX11_box 81 = .ok (.invokevirtual 161, 3) := by decide +kernel
theorem dX11_box_84 : decode cX11_box 84 = .ok (.iload 4, 2) := by decide +kernel
theorem dX11_box_86 : decode cX11_box 86 = .ok (.ireturn, 1) := by decide +kernel
theorem dX11_tries_0 : decode cX11_tries 0 = .ok (.iload_n 1, 1) := by decide +kernel
theorem dX11_tries_1 : decode cX11_tries 1 = .ok (.invokestatic 201, 3) := by decide +kernel
theorem dX11_tries_4 : decode cX11_tries 4 = .ok (.ifCond .ne 9, 3) := by decide +kernel
theorem dX11_tries_7 : decode cX11_tries 7 = .ok (.aload_n 0, 1) := by decide +kernel
theorem dX11_tries_8 : decode cX11_tries 8 = .ok (.iconst 1, 1) := by decide +kernel
theorem dX11_tries_9 : decode cX11_tries 9 = .ok (.invokevirtual 67, 3) := by decide +kernel
theorem dX11_tries_12 : decode cX11_tries 12 = .ok (.ireturn, 1) := by decide +kernel
theorem dX11_tries_13 : decode cX11_tries 13 = .ok (.aload_n 0, 1) := by decide +kernel
theorem dX11_tries_14 : decode cX11_tries 14 = .ok (.getfield 10, 3) := by decide +kernel
theorem dX11_tries_17 : decode cX11_tries 17 = .ok (.invokevirtual 241, 3) := by decide +kernel
theorem dX11_tries_20 : decode cX11_tries 20 = .ok (.ifCond .ne 9, 3) := by decide +kernel
theorem dX11_tries_23 : decode cX11_tries 23 = .ok (.aload_n 0, 1) := by decide +kernel
theorem dX11_tries_24 : decode cX11_tries 24 = .ok (.iconst 2, 1) := by decide +kernel
theorem dX11_tries_25 : decode cX11_tries 25 = .ok (.invokevirtual 67, 3) := by decide +kernel
theorem dX11_tries_28 : decode cX11_tries 28 = .ok (.ireturn, 1) := by decide +kernel
theorem dX11_tries_29 : decode cX11_tries 29 = .ok (.iconst 0, 1) := by decide +kernel
theorem dX11_tries_30 : decode cX11_tries 30 = .ok (.istore_n 2, 1) := by decide +kernel
theorem dX11_tries_31 : decode cX11_tries 31 = .ok (.iconst (-1), 1) := by decide +kernel
theorem dX11_tries_32 : decode cX11_tries 32 = .ok (.istore_n 3, 1) := by decide +kernel
theorem dX11_tries_33 : decode cX11_tries 33 = .ok (.iconst 0, 1) := by decide +kernel
theorem dX11_tries_34 : decode cX11_tries 34 = .ok (.istore 4, 2) := by decide +kernel
theorem dX11_tries_36 : decode cX11_tries 36 = .ok (.iload 4, 2) := by decide +kernel
theorem dX11_tries_38 : decode cX11_tries 38 = .ok (.aload_n 0, 1) := by decide +kernel
theorem dX11_tries_39 : decode cX11_tries 39 = .ok (.getfield 10, 3) := by decide +kernel
theorem dX11_tries_42 : decode cX11_tries 42 = .ok (.invokevirtual 241, 3) := by decide +kernel
theorem dX11_tries_45 : decode cX11_tries 45 = .ok (.if_icmp .ge 30, 3) := by decide +kernel
theorem dX11_tries_48 : decode cX11_tries 48 = .ok (.aload_n 0, 1) := by decide +kernel
theorem dX11_tries_49 : decode cX11_tries 49 = .ok (.iload 4, 2) := by decide +kernel
theorem dX11_tries_51 : decode cX11_tries 51 = .ok (.iload_n 1, 1) := by decide +kernel
theorem dX11_tries_52 : decode cX11_tries 52 = .ok (.invokevirtual 247, 3) := by decide +kernel
theorem dX11_tries_55 : decode cX11_tries 55 = .ok (.istore 5, 2) := by decide +kernel
theorem dX11_tries_57 : decode cX11_tries 57 = .ok (.iload 5, 2) := by decide +kernel
theorem dX11_tries_59 : decode cX11_tries 59 = .ok (.iload_n 3, 1) := by decide +kernel
theorem dX11_tries_60 : decode cX11_tries 60 = .ok (.if_icmp .le 9, 3) := by decide +kernel
theorem dX11_tries_63 : decode cX11_tries 63 = .ok (.iload 5, 2) := by decide +kernel
theorem dX11_tries_65 : decode cX11_tries 65 = .ok (.istore_n 3, 1) := by decide +kernel
theorem dX11_tries_66 : decode cX11_tries 66 = .ok (.iload 4, 2) := by decide +kernel
theorem dX11_tries_68 : decode cX11_tries 68 = .ok (.istore_n 2, 1) := by decide +kernel
theorem dX11_tries_69 : decode cX11_tries 69 = .ok (.iinc 4 1, 3) := by decide +kernel
theorem dX11_tries_72 : decode cX11_tries 72 = .ok (.goto (-36), 3) := by decide +kernel
theorem dX11_tries_75 : decode cX11_tries 75 = .ok (.iload_n 2, 1) := by decide +kernel
theorem dX11_tries_76 : decode cX11_tries 76 = .ok (.ireturn, 1) := by decide +kernel
theorem dX11_unlikePairs_0 : decode cX11_unlikePairs 0 = .ok (.aload_n 0, 1) := by decide +kernel
theorem dX11_unlikePairs_1 : decode cX11_unlikePairs 1 = .ok (.getfield 10, 3) := by decide +kernel
theorem dX11_unlikePairs_4 : decode cX11_unlikePairs 4 = .ok (.getfield 56, 3) := by decide +kernel
theorem dX11_unlikePairs_7 : decode cX11_unlikePairs 7 = .ok (.getfield 117, 3) := by decide +kernel
theorem dX11_unlikePairs_10 : decode cX11_unlikePairs 10 = .ok (.bipush 6, 2) := by decide +kernel
theorem dX11_unlikePairs_12 : decode cX11_unlikePairs 12 = .ok (.invokestatic 101, 3) := by decide +kernel
theorem dX11_unlikePairs_15 : decode cX11_unlikePairs 15 = .ok (.istore_n 3, 1) := by decide +kernel
theorem dX11_unlikePairs_16 : decode cX11_unlikePairs 16 = .ok (.iconst 0, 1) := by decide +kernel
theorem dX11_unlikePairs_17 : decode cX11_unlikePairs 17 = .ok (.istore 4, 2) := by decide +kernel
theorem dX11_unlikePairs_19 : decode cX11_unlikePairs 19 = .ok (.iconst 0, 1) := by decide +kernel
theorem dX11_unlikePairs_20 : decode cX11_unlikePairs 20 = .ok (.istore 5, 2) := by decide +kernel
theorem dX11_unlikePairs_22 : decode cX11_unlikePairs 22 = .ok (.iload 5, 2) := by decide +kernel
theorem dX11_unlikePairs_24 : decode cX11_unlikePairs 24 = .ok (.iload_n 3, 1) := by decide +kernel
theorem dX11_unlikePairs_25 : decode cX11_unlikePairs 25 = .ok (.if_icmp .ge 137, 3) := by decide +kernel
theorem dX11_unlikePairs_28 : decode cX11_unlikePairs 28 = .ok (.aload_n 0, 1) := by decide +kernel
theorem dX11_unlikePairs_29 : decode cX11_unlikePairs 29 = .ok (.invokevirtual 238, 3) := by decide +kernel
theorem dX11_unlikePairs_32 : decode cX11_unlikePairs 32 = .ok (.iconst 0, 1) := by decide +kernel
theorem dX11_unlikePairs_33 : decode cX11_unlikePairs 33 = .ok (.istore 6, 2) := by decide +kernel
theorem dX11_unlikePairs_35 : decode cX11_unlikePairs 35 = .ok (.iload 6, 2) := by decide +kernel
theorem dX11_unlikePairs_37 : decode cX11_unlikePairs 37 = .ok (.iconst 3, 1) := by decide +kernel
theorem dX11_unlikePairs_38 : decode cX11_unlikePairs 38 = .ok (.if_icmp .ge 39, 3) := by decide +kernel
theorem dX11_unlikePairs_41 : decode cX11_unlikePairs 41 = .ok (.aload_n 0, 1) := by decide +kernel
theorem dX11_unlikePairs_42 : decode cX11_unlikePairs 42 = .ok (.getfield 22, 3) := by decide +kernel
theorem dX11_unlikePairs_45 : decode cX11_unlikePairs 45 = .ok (.getfield 114, 3) := by decide +kernel
theorem dX11_unlikePairs_48 : decode cX11_unlikePairs 48 = .ok (.getstatic 250, 3) := by decide +kernel
theorem dX11_unlikePairs_51 : decode cX11_unlikePairs 51 = .ok (.iload 6, 2) := by decide +kernel
theorem dX11_unlikePairs_53 : decode cX11_unlikePairs 53 = .ok (.iaload, 1) := by decide +kernel
theorem dX11_unlikePairs_54 : decode cX11_unlikePairs 54 = .ok (.aload_n 0, 1) := by decide +kernel
theorem dX11_unlikePairs_55 : decode cX11_unlikePairs 55 = .ok (.getfield 10, 3) := by decide +kernel
theorem dX11_unlikePairs_58 : decode cX11_unlikePairs 58 = .ok (.getfield 244, 3) := by decide +kernel
theorem dX11_unlikePairs_61 : decode cX11_unlikePairs 61 = .ok (.iconst 3, 1) := by decide +kernel
theorem dX11_unlikePairs_62 : decode cX11_unlikePairs 62 = .ok (.iload_n 1, 1) := by decide +kernel
theorem dX11_unlikePairs_63 : decode cX11_unlikePairs 63 = .ok (.imul, 1) := by decide +kernel
theorem dX11_unlikePairs_64 : decode cX11_unlikePairs 64 = .ok (.iload 6, 2) := by decide +kernel
theorem dX11_unlikePairs_66 : decode cX11_unlikePairs 66 = .ok (.iadd, 1) := by decide +kernel
theorem dX11_unlikePairs_67 : decode cX11_unlikePairs 67 = .ok (.invokevirtual 107, 3) := by decide +kernel
theorem dX11_unlikePairs_70 : decode cX11_unlikePairs 70 = .ok (.iastore, 1) := by decide +kernel
theorem dX11_unlikePairs_71 : decode cX11_unlikePairs 71 = .ok (.iinc 6 1, 3) := by decide +kernel
theorem dX11_unlikePairs_74 : decode cX11_unlikePairs 74 = .ok (.goto (-39), 3) := by decide +kernel
theorem dX11_unlikePairs_77 : decode cX11_unlikePairs 77 = .ok (.aload_n 0, 1) := by decide +kernel
theorem dX11_unlikePairs_78 : decode cX11_unlikePairs 78 = .ok (.getfield 22, 3) := by decide +kernel
theorem dX11_unlikePairs_81 : decode cX11_unlikePairs 81 = .ok (.iconst 1, 1) := by decide +kernel
theorem dX11_unlikePairs_82 : decode cX11_unlikePairs 82 = .ok (.iload 5, 2) := by decide +kernel
theorem dX11_unlikePairs_84 : decode cX11_unlikePairs 84 = .ok (.ishl, 1) := by decide +kernel
theorem dX11_unlikePairs_85 : decode cX11_unlikePairs 85 = .ok (.putfield 128, 3) := by decide +kernel
theorem dX11_unlikePairs_88 : decode cX11_unlikePairs 88 = .ok (.aload_n 0, 1) := by decide +kernel
theorem dX11_unlikePairs_89 : decode cX11_unlikePairs 89 = .ok (.getfield 22, 3) := by decide +kernel
theorem dX11_unlikePairs_92 : decode cX11_unlikePairs 92 = .ok (.iload_n 2, 1) := by decide +kernel
theorem dX11_unlikePairs_93 : decode cX11_unlikePairs 93 = .ok (.invokevirtual 185, 3) := by decide +kernel
theorem dX11_unlikePairs_96 : decode cX11_unlikePairs 96 = .ok (.aload_n 0, 1) := by decide +kernel
theorem dX11_unlikePairs_97 : decode cX11_unlikePairs 97 = .ok (.getfield 22, 3) := by decide +kernel
theorem dX11_unlikePairs_100 : decode cX11_unlikePairs 100 = .ok (.aload_n 0, 1) := by decide +kernel
theorem dX11_unlikePairs_101 : decode cX11_unlikePairs 101 = .ok (.getfield 35, 3) := by decide +kernel
theorem dX11_unlikePairs_104 : decode cX11_unlikePairs 104 = .ok (.iload 5, 2) := by decide +kernel
theorem dX11_unlikePairs_106 : decode cX11_unlikePairs 106 = .ok (.aaload, 1) := by decide +kernel
theorem dX11_unlikePairs_107 : decode cX11_unlikePairs 107 = .ok (.invokevirtual 253, 3) := by decide +kernel
theorem dX11_unlikePairs_110 : decode cX11_unlikePairs 110 = .ok (.iconst 0, 1) := by decide +kernel
theorem dX11_unlikePairs_111 : decode cX11_unlikePairs 111 = .ok (.istore 6, 2) := by decide +kernel
theorem dX11_unlikePairs_113 : decode cX11_unlikePairs 113 = .ok (.iload 6, 2) := by decide +kernel
theorem dX11_unlikePairs_115 : decode cX11_unlikePairs 115 = .ok (.iload 5, 2) := by decide +kernel
theorem dX11_unlikePairs_117 : decode cX11_unlikePairs 117 = .ok (.if_icmp .ge 39, 3) := by decide +kernel
theorem dX11_unlikePairs_120 : decode cX11_unlikePairs 120 = .ok (.iload 4, 2) := by decide +kernel
theorem dX11_unlikePairs_122 : decode cX11_unlikePairs 122 = .ok (.aload_n 0, 1) := by decide +kernel
theorem dX11_unlikePairs_123 : decode cX11_unlikePairs 123 = .ok (.getfield 35, 3) := by decide +kernel
theorem dX11_unlikePairs_126 : decode cX11_unlikePairs 126 = .ok (.iload 5, 2) := by decide +kernel
theorem dX11_unlikePairs_128 : decode cX11_unlikePairs 128 = .ok (.aaload, 1) := by decide +kernel
theorem dX11_unlikePairs_129 : decode cX11_unlikePairs 129 = .ok (.aload_n 0, 1) := by decide +kernel
theorem dX11_unlikePairs_130 : decode cX11_unlikePairs 130 = .ok (.getfield 35, 3) := by decide +kernel
theorem dX11_unlikePairs_133 : decode cX11_unlikePairs 133 = .ok (.iload 6, 2) := by decide +kernel
theorem dX11_unlikePairs_135 : decode cX11_unlikePairs 135 = .ok (.aaload, 1) := by decide +kernel
theorem dX11_unlikePairs_136 : decode cX11_unlikePairs 136 = .ok (.invokevirtual 257, 3) := by decide +kernel
theorem dX11_unlikePairs_139 : decode cX11_unlikePairs 139 = .ok (.ifCond .ge 7, 3) := by decide +kernel
theorem dX11_unlikePairs_142 : decode cX11_unlikePairs 142 = .ok (.iconst 0, 1) := by decide +kernel
theorem dX11_unlikePairs_143 : decode cX11_unlikePairs 143 = .ok (.goto 4, 3) := by decide +kernel
theorem dX11_unlikePairs_146 : decode cX11_unlikePairs 146 = .ok (.iconst 1, 1) := by decide +kernel
theorem dX11_unlikePairs_147 : decode cX11_unlikePairs 147 = .ok (.iadd, 1) := by decide +kernel
theorem dX11_unlikePairs_148 : decode cX11_unlikePairs 148 = .ok (.istore 4, 2) := by decide +kernel
theorem dX11_unlikePairs_150 : decode cX11_unlikePairs 150 = .ok (.iinc 6 1, 3) := by decide +kernel
theorem dX11_unlikePairs_153 : decode cX11_unlikePairs 153 = .ok (.goto (-40), 3) := by decide +kernel
theorem dX11_unlikePairs_156 : decode cX11_unlikePairs 156 = .ok (.iinc 5 1, 3) := by decide +kernel
theorem dX11_unlikePairs_159 : decode cX11_unlikePairs 159 = .ok (.goto (-137), 3) := by decide +kernel
theorem dX11_unlikePairs_162 : decode cX11_unlikePairs 162 = .ok (.iload 4, 2) := by decide +kernel
theorem dX11_unlikePairs_164 : decode cX11_unlikePairs 164 = .ok (.ireturn, 1) := by decide +kernel
theorem dX11_seed_0 : decode cX11_seed 0 = .ok (.aload_n 0, 1) := by decide +kernel
theorem dX11_seed_1 : decode cX11_seed 1 = .ok (.getfield 10, 3) := by decide +kernel
theorem dX11_seed_4 : decode cX11_seed 4 = .ok (.getfield 260, 3) := by decide +kernel
theorem dX11_seed_7 : decode cX11_seed 7 = .ok (.istore_n 2, 1) := by decide +kernel
theorem dX11_seed_8 : decode cX11_seed 8 = .ok (.aload_n 0, 1) := by decide +kernel
theorem dX11_seed_9 : decode cX11_seed 9 = .ok (.getfield 10, 3) := by decide +kernel
theorem dX11_seed_12 : decode cX11_seed 12 = .ok (.iload_n 1, 1) := by decide +kernel
theorem dX11_seed_13 : decode cX11_seed 13 = .ok (.putfield 260, 3) := by decide +kernel
theorem dX11_seed_16 : decode cX11_seed 16 = .ok (.iload_n 2, 1) := by decide +kernel
theorem dX11_seed_17 : decode cX11_seed 17 = .ok (.ireturn, 1) := by decide +kernel
theorem dX11_voice_0 : decode cX11_voice 0 = .ok (.aload_n 0, 1) := by decide +kernel
theorem dX11_voice_1 : decode cX11_voice 1 = .ok (.iload_n 1, 1) := by decide +kernel
theorem dX11_voice_2 : decode cX11_voice 2 = .ok (.invokevirtual 131, 3) := by decide +kernel
theorem dX11_voice_5 : decode cX11_voice 5 = .ok (.astore 4, 2) := by decide +kernel
theorem dX11_voice_7 : decode cX11_voice 7 = .ok (.aload 4, 2) := by decide +kernel
theorem dX11_voice_9 : decode cX11_voice 9 = .ok (.ifnull 12, 3) := by decide +kernel
theorem dX11_voice_12 : decode cX11_voice 12 = .ok (.iload_n 2, 1) := by decide +kernel
theorem dX11_voice_13 : decode cX11_voice 13 = .ok (.iconst 0, 1) := by decide +kernel
theorem dX11_voice_14 : decode cX11_voice 14 = .ok (.iconst 3, 1) := by decide +kernel
theorem dX11_voice_15 : decode cX11_voice 15 = .ok (.invokestatic 63, 3) := by decide +kernel
theorem dX11_voice_18 : decode cX11_voice 18 = .ok (.ifCond .ne 9, 3) := by decide +kernel
theorem dX11_voice_21 : decode cX11_voice 21 = .ok (.aload_n 0, 1) := by decide +kernel
theorem dX11_voice_22 : decode cX11_voice 22 = .ok (.iconst 1, 1) := by decide +kernel
theorem dX11_voice_23 : decode cX11_voice 23 = .ok (.invokevirtual 67, 3) := by decide +kernel
theorem dX11_voice_26 : decode cX11_voice 26 = .ok (.ireturn, 1) := by decide +kernel
theorem dX11_voice_27 : decode cX11_voice 27 = .ok (.aload_n 0, 1) := by decide +kernel
theorem dX11_voice_28 : decode cX11_voice 28 = .ok (.getfield 45, 3) := by decide +kernel
theorem dX11_voice_31 : decode cX11_voice 31 = .ok (.invokevirtual 171, 3) := by decide +kernel
theorem dX11_voice_34 : decode cX11_voice 34 = .ok (.iload_n 2, 1) := by decide +kernel
theorem dX11_voice_35 : decode cX11_voice 35 = .ok (.tableswitch 58 0 2 #[25, 36, 47], 25) := by decide +kernel
theorem dX11_voice_60 : decode cX11_voice 60 = .ok (.aload 4, 2) := by decide +kernel
theorem dX11_voice_62 : decode cX11_voice 62 = .ok (.iload_n 3, 1) := by decide +kernel
theorem dX11_voice_63 : decode cX11_voice 63 = .ok (.aload_n 0, 1) := by decide +kernel
theorem dX11_voice_64 : decode cX11_voice 64 = .ok (.getfield 45, 3) := by decide +kernel
theorem dX11_voice_67 : decode cX11_voice 67 = .ok (.invokevirtual 263, 3) := by decide +kernel
theorem dX11_voice_70 : decode cX11_voice 70 = .ok (.ireturn, 1) := by decide +kernel
theorem dX11_voice_71 : decode cX11_voice 71 = .ok (.aload 4, 2) := by decide +kernel
theorem dX11_voice_73 : decode cX11_voice 73 = .ok (.iload_n 3, 1) := by decide +kernel
theorem dX11_voice_74 : decode cX11_voice 74 = .ok (.aload_n 0, 1) := by decide +kernel
theorem dX11_voice_75 : decode cX11_voice 75 = .ok (.getfield 45, 3) := by decide +kernel
theorem dX11_voice_78 : decode cX11_voice 78 = .ok (.invokevirtual 267, 3) := by decide +kernel
theorem dX11_voice_81 : decode cX11_voice 81 = .ok (.ireturn, 1) := by decide +kernel
theorem dX11_voice_82 : decode cX11_voice 82 = .ok (.aload 4, 2) := by decide +kernel
theorem dX11_voice_84 : decode cX11_voice 84 = .ok (.iload_n 3, 1) := by decide +kernel
theorem dX11_voice_85 : decode cX11_voice 85 = .ok (.aload_n 0, 1) := by decide +kernel
theorem dX11_voice_86 : decode cX11_voice 86 = .ok (.getfield 45, 3) := by decide +kernel
theorem dX11_voice_89 : decode cX11_voice 89 = .ok (.invokevirtual 270, 3) := by decide +kernel
theorem dX11_voice_92 : decode cX11_voice 92 = .ok (.ireturn, 1) := by decide +kernel
theorem dX11_voice_93 : decode cX11_voice 93 = .ok (.aload 4, 2) := by decide +kernel
theorem dX11_voice_95 : decode cX11_voice 95 = .ok (.iload_n 3, 1) := by decide +kernel
theorem dX11_voice_96 : decode cX11_voice 96 = .ok (.aload_n 0, 1) := by decide +kernel
theorem dX11_voice_97 : decode cX11_voice 97 = .ok (.getfield 45, 3) := by decide +kernel
theorem dX11_voice_100 : decode cX11_voice 100 = .ok (.invokevirtual 273, 3) := by decide +kernel
theorem dX11_voice_103 : decode cX11_voice 103 = .ok (.ireturn, 1) := by decide +kernel
theorem dX11_trace_0 : decode cX11_trace 0 = .ok (.iload_n 1, 1) := by decide +kernel
theorem dX11_trace_1 : decode cX11_trace 1 = .ok (.iconst 0, 1) := by decide +kernel
theorem dX11_trace_2 : decode cX11_trace 2 = .ok (.aload_n 0, 1) := by decide +kernel
theorem dX11_trace_3 : decode cX11_trace 3 = .ok (.getfield 45, 3) := by decide +kernel
theorem dX11_trace_6 : decode cX11_trace 6 = .ok (.getfield 95, 3) := by decide +kernel
theorem dX11_trace_9 : decode cX11_trace 9 = .ok (.iconst 1, 1) := by decide +kernel
theorem dX11_trace_10 : decode cX11_trace 10 = .ok (.isub, 1) := by decide +kernel
theorem dX11_trace_11 : decode cX11_trace 11 = .ok (.invokestatic 63, 3) := by decide +kernel
theorem dX11_trace_14 : decode cX11_trace 14 = .ok (.ifCond .eq 14, 3) := by decide +kernel
theorem dX11_trace_17 : decode cX11_trace 17 = .ok (.aload_n 0, 1) := by decide +kernel
theorem dX11_trace_18 : decode cX11_trace 18 = .ok (.getfield 45, 3) := by decide +kernel
theorem dX11_trace_21 : decode cX11_trace 21 = .ok (.iload_n 1, 1) := by decide +kernel
theorem dX11_trace_22 : decode cX11_trace 22 = .ok (.invokevirtual 107, 3) := by decide +kernel
theorem dX11_trace_25 : decode cX11_trace 25 = .ok (.goto 8, 3) := by decide +kernel
theorem dX11_trace_28 : decode cX11_trace 28 = .ok (.aload_n 0, 1) := by decide +kernel
theorem dX11_trace_29 : decode cX11_trace 29 = .ok (.iconst 2, 1) := by decide +kernel
theorem dX11_trace_30 : decode cX11_trace 30 = .ok (.invokevirtual 67, 3) := by decide +kernel
theorem dX11_trace_33 : decode cX11_trace 33 = .ok (.ireturn, 1) := by decide +kernel
theorem dX11_sheet_0 : decode cX11_sheet 0 = .ok (.iload_n 1, 1) := by decide +kernel
theorem dX11_sheet_1 : decode cX11_sheet 1 = .ok (.invokestatic 88, 3) := by decide +kernel
theorem dX11_sheet_4 : decode cX11_sheet 4 = .ok (.ifCond .eq 10, 3) := by decide +kernel
theorem dX11_sheet_7 : decode cX11_sheet 7 = .ok (.iload_n 2, 1) := by decide +kernel
theorem dX11_sheet_8 : decode cX11_sheet 8 = .ok (.invokestatic 276, 3) := by decide +kernel
theorem dX11_sheet_11 : decode cX11_sheet 11 = .ok (.ifCond .ne 9, 3) := by decide +kernel
theorem dX11_sheet_14 : decode cX11_sheet 14 = .ok (.aload_n 0, 1) := by decide +kernel
theorem dX11_sheet_15 : decode cX11_sheet 15 = .ok (.iconst 1, 1) := by decide +kernel
theorem dX11_sheet_16 : decode cX11_sheet 16 = .ok (.invokevirtual 67, 3) := by decide +kernel
theorem dX11_sheet_19 : decode cX11_sheet 19 = .ok (.ireturn, 1) := by decide +kernel
theorem dX11_sheet_20 : decode cX11_sheet 20 = .ok (.iload_n 2, 1) := by decide +kernel
theorem dX11_sheet_21 : decode cX11_sheet 21 = .ok (.ifCond .eq 13, 3) := by decide +kernel
theorem dX11_sheet_24 : decode cX11_sheet 24 = .ok (.iload_n 3, 1) := by decide +kernel
theorem dX11_sheet_25 : decode cX11_sheet 25 = .ok (.ifCond .ge 9, 3) := by decide +kernel
theorem dX11_sheet_28 : decode cX11_sheet 28 = .ok (.aload_n 0, 1) := by decide +kernel
theorem dX11_sheet_29 : decode cX11_sheet 29 = .ok (.iconst 3, 1) := by decide +kernel
theorem dX11_sheet_30 : decode cX11_sheet 30 = .ok (.invokevirtual 67, 3) := by decide +kernel
theorem dX11_sheet_33 : decode cX11_sheet 33 = .ok (.ireturn, 1) := by decide +kernel
theorem dX11_sheet_34 : decode cX11_sheet 34 = .ok (.iload_n 2, 1) := by decide +kernel
theorem dX11_sheet_35 : decode cX11_sheet 35 = .ok (.ifCond .eq 15, 3) := by decide +kernel
theorem dX11_sheet_38 : decode cX11_sheet 38 = .ok (.iload_n 3, 1) := by decide +kernel
theorem dX11_sheet_39 : decode cX11_sheet 39 = .ok (.bipush 40, 2) := by decide +kernel
theorem dX11_sheet_41 : decode cX11_sheet 41 = .ok (.if_icmp .le 9, 3) := by decide +kernel
theorem dX11_sheet_44 : decode cX11_sheet 44 = .ok (.aload_n 0, 1) := by decide +kernel
theorem dX11_sheet_45 : decode cX11_sheet 45 = .ok (.iconst 1, 1) := by decide +kernel
theorem dX11_sheet_46 : decode cX11_sheet 46 = .ok (.invokevirtual 67, 3) := by decide +kernel
theorem dX11_sheet_49 : decode cX11_sheet 49 = .ok (.ireturn, 1) := by decide +kernel
theorem dX11_sheet_50 : decode cX11_sheet 50 = .ok (.aload_n 0, 1) := by decide +kernel
theorem dX11_sheet_51 : decode cX11_sheet 51 = .ok (.getfield 28, 3) := by decide +kernel
theorem dX11_sheet_54 : decode cX11_sheet 54 = .ok (.iload_n 1, 1) := by decide +kernel
theorem dX11_sheet_55 : decode cX11_sheet 55 = .ok (.aaload, 1) := by decide +kernel
theorem dX11_sheet_56 : decode cX11_sheet 56 = .ok (.iload_n 2, 1) := by decide +kernel
theorem dX11_sheet_57 : decode cX11_sheet 57 = .ok (.iload_n 2, 1) := by decide +kernel
theorem dX11_sheet_58 : decode cX11_sheet 58 = .ok (.ifCond .ne 7, 3) := by decide +kernel
theorem dX11_sheet_61 : decode cX11_sheet 61 = .ok (.iconst 0, 1) := by decide +kernel
theorem dX11_sheet_62 : decode cX11_sheet 62 = .ok (.goto 4, 3) := by decide +kernel
theorem dX11_sheet_65 : decode cX11_sheet 65 = .ok (.iload_n 3, 1) := by decide +kernel
theorem dX11_sheet_66 : decode cX11_sheet 66 = .ok (.invokevirtual 279, 3) := by decide +kernel
theorem dX11_sheet_69 : decode cX11_sheet 69 = .ok (.iconst 1, 1) := by decide +kernel
theorem dX11_sheet_70 : decode cX11_sheet 70 = .ok (.ireturn, 1) := by decide +kernel
theorem dX11_put_0 : decode cX11_put 0 = .ok (.iload_n 1, 1) := by decide +kernel
theorem dX11_put_1 : decode cX11_put 1 = .ok (.invokestatic 88, 3) := by decide +kernel
theorem dX11_put_4 : decode cX11_put 4 = .ok (.ifCond .ne 9, 3) := by decide +kernel
theorem dX11_put_7 : decode cX11_put 7 = .ok (.aload_n 0, 1) := by decide +kernel
theorem dX11_put_8 : decode cX11_put 8 = .ok (.iconst 1, 1) := by decide +kernel
theorem dX11_put_9 : decode cX11_put 9 = .ok (.invokevirtual 67, 3) := by decide +kernel
theorem dX11_put_12 : decode cX11_put 12 = .ok (.ireturn, 1) := by decide +kernel
theorem dX11_put_13 : decode cX11_put 13 = .ok (.aload_n 0, 1) := by decide +kernel
theorem dX11_put_14 : decode cX11_put 14 = .ok (.getfield 28, 3) := by decide +kernel
theorem dX11_put_17 : decode cX11_put 17 = .ok (.iload_n 1, 1) := by decide +kernel
theorem dX11_put_18 : decode cX11_put 18 = .ok (.aaload, 1) := by decide +kernel
theorem dX11_put_19 : decode cX11_put 19 = .ok (.astore 4, 2) := by decide +kernel
theorem dX11_put_21 : decode cX11_put 21 = .ok (.aload 4, 2) := by decide +kernel
theorem dX11_put_23 : decode cX11_put 23 = .ok (.invokevirtual 91, 3) := by decide +kernel
theorem dX11_put_26 : decode cX11_put 26 = .ok (.ifCond .eq 9, 3) := by decide +kernel
theorem dX11_put_29 : decode cX11_put 29 = .ok (.aload_n 0, 1) := by decide +kernel
theorem dX11_put_30 : decode cX11_put 30 = .ok (.iconst 2, 1) := by decide +kernel
theorem dX11_put_31 : decode cX11_put 31 = .ok (.invokevirtual 67, 3) := by decide +kernel
theorem dX11_put_34 : decode cX11_put 34 = .ok (.ireturn, 1) := by decide +kernel
theorem dX11_put_35 : decode cX11_put 35 = .ok (.iload_n 2, 1) := by decide +kernel
theorem dX11_put_36 : decode cX11_put 36 = .ok (.iconst 0, 1) := by decide +kernel
theorem dX11_put_37 : decode cX11_put 37 = .ok (.aload 4, 2) := by decide +kernel
theorem dX11_put_39 : decode cX11_put 39 = .ok (.getfield 95, 3) := by decide +kernel
theorem dX11_put_42 : decode cX11_put 42 = .ok (.iconst 1, 1) := by decide +kernel
theorem dX11_put_43 : decode cX11_put 43 = .ok (.isub, 1) := by decide +kernel
theorem dX11_put_44 : decode cX11_put 44 = .ok (.invokestatic 63, 3) := by decide +kernel
theorem dX11_put_47 : decode cX11_put 47 = .ok (.ifCond .ne 9, 3) := by decide +kernel
theorem dX11_put_50 : decode cX11_put 50 = .ok (.aload_n 0, 1) := by decide +kernel
theorem dX11_put_51 : decode cX11_put 51 = .ok (.iconst 1, 1) := by decide +kernel
theorem dX11_put_52 : decode cX11_put 52 = .ok (.invokevirtual 67, 3) := by decide +kernel
theorem dX11_put_55 : decode cX11_put 55 = .ok (.ireturn, 1) := by decide +kernel
theorem dX11_put_56 : decode cX11_put 56 = .ok (.aload 4, 2) := by decide +kernel
theorem dX11_put_58 : decode cX11_put 58 = .ok (.iload_n 2, 1) := by decide +kernel
theorem dX11_put_59 : decode cX11_put 59 = .ok (.iload_n 3, 1) := by decide +kernel
theorem dX11_put_60 : decode cX11_put 60 = .ok (.invokevirtual 282, 3) := by decide +kernel
theorem dX11_put_63 : decode cX11_put 63 = .ok (.iconst 1, 1) := by decide +kernel
theorem dX11_put_64 : decode cX11_put 64 = .ok (.ireturn, 1) := by decide +kernel
theorem dX11_move_0 : decode cX11_move 0 = .ok (.iload_n 1, 1) := by decide +kernel
theorem dX11_move_1 : decode cX11_move 1 = .ok (.invokestatic 88, 3) := by decide +kernel
theorem dX11_move_4 : decode cX11_move 4 = .ok (.ifCond .eq 10, 3) := by decide +kernel
theorem dX11_move_7 : decode cX11_move 7 = .ok (.iload_n 3, 1) := by decide +kernel
theorem dX11_move_8 : decode cX11_move 8 = .ok (.invokestatic 88, 3) := by decide +kernel
theorem dX11_move_11 : decode cX11_move 11 = .ok (.ifCond .ne 9, 3) := by decide +kernel
theorem dX11_move_14 : decode cX11_move 14 = .ok (.aload_n 0, 1) := by decide +kernel
theorem dX11_move_15 : decode cX11_move 15 = .ok (.iconst 1, 1) := by decide +kernel
theorem dX11_move_16 : decode cX11_move 16 = .ok (.invokevirtual 67, 3) := by decide +kernel
theorem dX11_move_19 : decode cX11_move 19 = .ok (.ireturn, 1) := by decide +kernel
theorem dX11_move_20 : decode cX11_move 20 = .ok (.aload_n 0, 1) := by decide +kernel
theorem dX11_move_21 : decode cX11_move 21 = .ok (.getfield 28, 3) := by decide +kernel
theorem dX11_move_24 : decode cX11_move 24 = .ok (.iload_n 1, 1) := by decide +kernel
theorem dX11_move_25 : decode cX11_move 25 = .ok (.aaload, 1) := by decide +kernel
theorem dX11_move_26 : decode cX11_move 26 = .ok (.astore 6, 2) := by decide +kernel
theorem dX11_move_28 : decode cX11_move 28 = .ok (.aload_n 0, 1) := by decide +kernel
theorem dX11_move_29 : decode cX11_move 29 = .ok (.getfield 28, 3) := by decide +kernel
theorem dX11_move_32 : decode cX11_move 32 = .ok (.iload_n 3, 1) := by decide +kernel
theorem dX11_move_33 : decode cX11_move 33 = .ok (.aaload, 1) := by decide +kernel
theorem dX11_move_34 : decode cX11_move 34 = .ok (.astore 7, 2) := by decide +kernel
theorem dX11_move_36 : decode cX11_move 36 = .ok (.aload 6, 2) := by decide +kernel
theorem dX11_move_38 : decode cX11_move 38 = .ok (.invokevirtual 91, 3) := by decide +kernel
theorem dX11_move_41 : decode cX11_move 41 = .ok (.ifCond .ne 11, 3) := by decide +kernel
theorem dX11_move_44 : decode cX11_move 44 = .ok (.aload 7, 2) := by decide +kernel
theorem dX11_move_46 : decode cX11_move 46 = .ok (.invokevirtual 91, 3) := by decide +kernel
theorem dX11_move_49 : decode cX11_move 49 = .ok (.ifCond .eq 9, 3) := by decide +kernel
theorem dX11_move_52 : decode cX11_move 52 = .ok (.aload_n 0, 1) := by decide +kernel
theorem dX11_move_53 : decode cX11_move 53 = .ok (.iconst 2, 1) := by decide +kernel
theorem dX11_move_54 : decode cX11_move 54 = .ok (.invokevirtual 67, 3) := by decide +kernel
theorem dX11_move_57 : decode cX11_move 57 = .ok (.ireturn, 1) := by decide +kernel
theorem dX11_move_58 : decode cX11_move 58 = .ok (.aload 6, 2) := by decide +kernel
theorem dX11_move_60 : decode cX11_move 60 = .ok (.getfield 285, 3) := by decide +kernel
theorem dX11_move_63 : decode cX11_move 63 = .ok (.aload 7, 2) := by decide +kernel
theorem dX11_move_65 : decode cX11_move 65 = .ok (.getfield 285, 3) := by decide +kernel
theorem dX11_move_68 : decode cX11_move 68 = .ok (.if_icmp .eq 9, 3) := by decide +kernel
theorem dX11_move_71 : decode cX11_move 71 = .ok (.aload_n 0, 1) := by decide +kernel
theorem dX11_move_72 : decode cX11_move 72 = .ok (.iconst 5, 1) := by decide +kernel
theorem dX11_move_73 : decode cX11_move 73 = .ok (.invokevirtual 67, 3) := by decide +kernel
theorem dX11_move_76 : decode cX11_move 76 = .ok (.ireturn, 1) := by decide +kernel
theorem dX11_move_77 : decode cX11_move 77 = .ok (.aload 6, 2) := by decide +kernel
theorem dX11_move_79 : decode cX11_move 79 = .ok (.iload_n 2, 1) := by decide +kernel
theorem dX11_move_80 : decode cX11_move 80 = .ok (.iload 5, 2) := by decide +kernel
theorem dX11_move_82 : decode cX11_move 82 = .ok (.invokevirtual 288, 3) := by decide +kernel
theorem dX11_move_85 : decode cX11_move 85 = .ok (.ifCond .eq 15, 3) := by decide +kernel
theorem dX11_move_88 : decode cX11_move 88 = .ok (.aload 7, 2) := by decide +kernel
theorem dX11_move_90 : decode cX11_move 90 = .ok (.iload 4, 2) := by decide +kernel
theorem dX11_move_92 : decode cX11_move 92 = .ok (.iload 5, 2) := by decide +kernel
theorem dX11_move_94 : decode cX11_move 94 = .ok (.invokevirtual 288, 3) := by decide +kernel
theorem dX11_move_97 : decode cX11_move 97 = .ok (.ifCond .ne 9, 3) := by decide +kernel
theorem dX11_move_100 : decode cX11_move 100 = .ok (.aload_n 0, 1) := by decide +kernel
theorem dX11_move_101 : decode cX11_move 101 = .ok (.iconst 1, 1) := by decide +kernel
theorem dX11_move_102 : decode cX11_move 102 = .ok (.invokevirtual 67, 3) := by decide +kernel
theorem dX11_move_105 : decode cX11_move 105 = .ok (.ireturn, 1) := by decide +kernel
theorem dX11_move_106 : decode cX11_move 106 = .ok (.aload 6, 2) := by decide +kernel
theorem dX11_move_108 : decode cX11_move 108 = .ok (.getfield 291, 3) := by decide +kernel
theorem dX11_move_111 : decode cX11_move 111 = .ok (.iload_n 2, 1) := by decide +kernel
theorem dX11_move_112 : decode cX11_move 112 = .ok (.aload 7, 2) := by decide +kernel
theorem dX11_move_114 : decode cX11_move 114 = .ok (.getfield 291, 3) := by decide +kernel
theorem dX11_move_117 : decode cX11_move 117 = .ok (.iload 4, 2) := by decide +kernel
theorem dX11_move_119 : decode cX11_move 119 = .ok (.iload 5, 2) := by decide +kernel
theorem dX11_move_121 : decode cX11_move 121 = .ok (.invokestatic 294, 3) := by decide +kernel
theorem dX11_move_124 : decode cX11_move 124 = .ok (.iload 5, 2) := by decide +kernel
theorem dX11_move_126 : decode cX11_move 126 = .ok (.ireturn, 1) := by decide +kernel
theorem dX11_draw_0 : decode cX11_draw 0 = .ok (.iload_n 1, 1) := by decide +kernel
theorem dX11_draw_1 : decode cX11_draw 1 = .ok (.invokestatic 88, 3) := by decide +kernel
theorem dX11_draw_4 : decode cX11_draw 4 = .ok (.ifCond .ne 9, 3) := by decide +kernel
theorem dX11_draw_7 : decode cX11_draw 7 = .ok (.aload_n 0, 1) := by decide +kernel
theorem dX11_draw_8 : decode cX11_draw 8 = .ok (.iconst 1, 1) := by decide +kernel
theorem dX11_draw_9 : decode cX11_draw 9 = .ok (.invokevirtual 67, 3) := by decide +kernel
theorem dX11_draw_12 : decode cX11_draw 12 = .ok (.ireturn, 1) := by decide +kernel
theorem dX11_draw_13 : decode cX11_draw 13 = .ok (.aload_n 0, 1) := by decide +kernel
theorem dX11_draw_14 : decode cX11_draw 14 = .ok (.getfield 28, 3) := by decide +kernel
theorem dX11_draw_17 : decode cX11_draw 17 = .ok (.iload_n 1, 1) := by decide +kernel
theorem dX11_draw_18 : decode cX11_draw 18 = .ok (.aaload, 1) := by decide +kernel
theorem dX11_draw_19 : decode cX11_draw 19 = .ok (.astore_n 2, 1) := by decide +kernel
theorem dX11_draw_20 : decode cX11_draw 20 = .ok (.aload_n 2, 1) := by decide +kernel
theorem dX11_draw_21 : decode cX11_draw 21 = .ok (.invokevirtual 91, 3) := by decide +kernel
theorem dX11_draw_24 : decode cX11_draw 24 = .ok (.ifCond .eq 9, 3) := by decide +kernel
theorem dX11_draw_27 : decode cX11_draw 27 = .ok (.aload_n 0, 1) := by decide +kernel
theorem dX11_draw_28 : decode cX11_draw 28 = .ok (.iconst 2, 1) := by decide +kernel
theorem dX11_draw_29 : decode cX11_draw 29 = .ok (.invokevirtual 67, 3) := by decide +kernel
theorem dX11_draw_32 : decode cX11_draw 32 = .ok (.ireturn, 1) := by decide +kernel
theorem dX11_draw_33 : decode cX11_draw 33 = .ok (.aload_n 2, 1) := by decide +kernel
theorem dX11_draw_34 : decode cX11_draw 34 = .ok (.getfield 95, 3) := by decide +kernel
theorem dX11_draw_37 : decode cX11_draw 37 = .ok (.aload_n 0, 1) := by decide +kernel
theorem dX11_draw_38 : decode cX11_draw 38 = .ok (.getfield 10, 3) := by decide +kernel
theorem dX11_draw_41 : decode cX11_draw 41 = .ok (.getfield 56, 3) := by decide +kernel
theorem dX11_draw_44 : decode cX11_draw 44 = .ok (.getfield 98, 3) := by decide +kernel
theorem dX11_draw_47 : decode cX11_draw 47 = .ok (.invokestatic 101, 3) := by decide +kernel
theorem dX11_draw_50 : decode cX11_draw 50 = .ok (.istore_n 3, 1) := by decide +kernel
theorem dX11_draw_51 : decode cX11_draw 51 = .ok (.iconst 0, 1) := by decide +kernel
theorem dX11_draw_52 : decode cX11_draw 52 = .ok (.istore 4, 2) := by decide +kernel
theorem dX11_draw_54 : decode cX11_draw 54 = .ok (.iload 4, 2) := by decide +kernel
theorem dX11_draw_56 : decode cX11_draw 56 = .ok (.iload_n 3, 1) := by decide +kernel
theorem dX11_draw_57 : decode cX11_draw 57 = .ok (.if_icmp .ge 27, 3) := by decide +kernel
theorem dX11_draw_60 : decode cX11_draw 60 = .ok (.aload_n 2, 1) := by decide +kernel
theorem dX11_draw_61 : decode cX11_draw 61 = .ok (.iload 4, 2) := by decide +kernel
theorem dX11_draw_63 : decode cX11_draw 63 = .ok (.aload_n 0, 1) := by decide +kernel
theorem dX11_draw_64 : decode cX11_draw 64 = .ok (.getfield 10, 3) := by decide +kernel
theorem dX11_draw_67 : decode cX11_draw 67 = .ok (.getfield 56, 3) := by decide +kernel
theorem dX11_draw_70 : decode cX11_draw 70 = .ok (.iload 4, 2) := by decide +kernel
theorem dX11_draw_72 : decode cX11_draw 72 = .ok (.invokevirtual 71, 3) := by decide +kernel
theorem dX11_draw_75 : decode cX11_draw 75 = .ok (.invokevirtual 282, 3) := by decide +kernel
theorem dX11_draw_78 : decode cX11_draw 78 = .ok (.iinc 4 1, 3) := by decide +kernel
theorem dX11_draw_81 : decode cX11_draw 81 = .ok (.goto (-27), 3) := by decide +kernel
theorem dX11_draw_84 : decode cX11_draw 84 = .ok (.iload_n 3, 1) := by decide +kernel
theorem dX11_draw_85 : decode cX11_draw 85 = .ok (.ireturn, 1) := by decide +kernel
theorem dX11_image_0 : decode cX11_image 0 = .ok (.aload_n 0, 1) := by decide +kernel
theorem dX11_image_1 : decode cX11_image 1 = .ok (.getfield 16, 3) := by decide +kernel
theorem dX11_image_4 : decode cX11_image 4 = .ok (.aload_n 0, 1) := by decide +kernel
theorem dX11_image_5 : decode cX11_image 5 = .ok (.getfield 10, 3) := by decide +kernel
theorem dX11_image_8 : decode cX11_image 8 = .ok (.invokevirtual 300, 3) := by decide +kernel
theorem dX11_image_11 : decode cX11_image 11 = .ok (.aload_n 0, 1) := by decide +kernel
theorem dX11_image_12 : decode cX11_image 12 = .ok (.dup, 1) := by decide +kernel
theorem dX11_image_13 : decode cX11_image 13 = .ok (.getfield 52, 3) := by decide +kernel
theorem dX11_image_16 : decode cX11_image 16 = .ok (.iconst 1, 1) := by decide +kernel
theorem dX11_image_17 : decode cX11_image 17 = .ok (.iadd, 1) := by decide +kernel
theorem dX11_image_18 : decode cX11_image 18 = .ok (.putfield 52, 3) := by decide +kernel
theorem dX11_image_21 : decode cX11_image 21 = .ok (.aload_n 0, 1) := by decide +kernel
theorem dX11_image_22 : decode cX11_image 22 = .ok (.getfield 52, 3) := by decide +kernel
theorem dX11_image_25 : decode cX11_image 25 = .ok (.ireturn, 1) := by decide +kernel
theorem dX11_restore_0 : decode cX11_restore 0 = .ok (.aload_n 0, 1) := by decide +kernel
theorem dX11_restore_1 : decode cX11_restore 1 = .ok (.getfield 52, 3) := by decide +kernel
theorem dX11_restore_4 : decode cX11_restore 4 = .ok (.ifCond .ne 9, 3) := by decide +kernel
theorem dX11_restore_7 : decode cX11_restore 7 = .ok (.aload_n 0, 1) := by decide +kernel
theorem dX11_restore_8 : decode cX11_restore 8 = .ok (.iconst 2, 1) := by decide +kernel
theorem dX11_restore_9 : decode cX11_restore 9 = .ok (.invokevirtual 67, 3) := by decide +kernel
theorem dX11_restore_12 : decode cX11_restore 12 = .ok (.ireturn, 1) := by decide +kernel
theorem dX11_restore_13 : decode cX11_restore 13 = .ok (.aload_n 0, 1) := by decide +kernel
theorem dX11_restore_14 : decode cX11_restore 14 = .ok (.getfield 10, 3) := by decide +kernel
theorem dX11_restore_17 : decode cX11_restore 17 = .ok (.aload_n 0, 1) := by decide +kernel
theorem dX11_restore_18 : decode cX11_restore 18 = .ok (.getfield 16, 3) := by decide +kernel
theorem dX11_restore_21 : decode cX11_restore 21 = .ok (.invokevirtual 300, 3) := by decide +kernel
theorem dX11_restore_24 : decode cX11_restore 24 = .ok (.aload_n 0, 1) := by decide +kernel
theorem dX11_restore_25 : decode cX11_restore 25 = .ok (.getfield 10, 3) := by decide +kernel
theorem dX11_restore_28 : decode cX11_restore 28 = .ok (.getfield 56, 3) := by decide +kernel
theorem dX11_restore_31 : decode cX11_restore 31 = .ok (.getfield 182, 3) := by decide +kernel
theorem dX11_restore_34 : decode cX11_restore 34 = .ok (.ireturn, 1) := by decide +kernel
theorem dX11_tell_0 : decode cX11_tell 0 = .ok (.aload_n 0, 1) := by decide +kernel
theorem dX11_tell_1 : decode cX11_tell 1 = .ok (.getfield 10, 3) := by decide +kernel
theorem dX11_tell_4 : decode cX11_tell 4 = .ok (.getfield 303, 3) := by decide +kernel
theorem dX11_tell_7 : decode cX11_tell 7 = .ok (.getfield 95, 3) := by decide +kernel
theorem dX11_tell_10 : decode cX11_tell 10 = .ok (.bipush 20, 2) := by decide +kernel
theorem dX11_tell_12 : decode cX11_tell 12 = .ok (.if_icmp .lt 9, 3) := by decide +kernel
theorem dX11_tell_15 : decode cX11_tell 15 = .ok (.aload_n 0, 1) := by decide +kernel
theorem dX11_tell_16 : decode cX11_tell 16 = .ok (.iconst 4, 1) := by decide +kernel
theorem dX11_tell_17 : decode cX11_tell 17 = .ok (.invokevirtual 67, 3) := by decide +kernel
theorem dX11_tell_20 : decode cX11_tell 20 = .ok (.ireturn, 1) := by decide +kernel
theorem dX11_tell_21 : decode cX11_tell 21 = .ok (.aload_n 0, 1) := by decide +kernel
theorem dX11_tell_22 : decode cX11_tell 22 = .ok (.getfield 10, 3) := by decide +kernel
theorem dX11_tell_25 : decode cX11_tell 25 = .ok (.getfield 303, 3) := by decide +kernel
theorem dX11_tell_28 : decode cX11_tell 28 = .ok (.iload_n 1, 1) := by decide +kernel
theorem dX11_tell_29 : decode cX11_tell 29 = .ok (.invokevirtual 161, 3) := by decide +kernel
theorem dX11_tell_32 : decode cX11_tell 32 = .ok (.aload_n 0, 1) := by decide +kernel
theorem dX11_tell_33 : decode cX11_tell 33 = .ok (.getfield 10, 3) := by decide +kernel
theorem dX11_tell_36 : decode cX11_tell 36 = .ok (.getfield 303, 3) := by decide +kernel
theorem dX11_tell_39 : decode cX11_tell 39 = .ok (.getfield 95, 3) := by decide +kernel
theorem dX11_tell_42 : decode cX11_tell 42 = .ok (.ireturn, 1) := by decide +kernel
theorem dX11_check_0 : decode cX11_check 0 = .ok (.iload_n 1, 1) := by decide +kernel
theorem dX11_check_1 : decode cX11_check 1 = .ok (.invokestatic 201, 3) := by decide +kernel
theorem dX11_check_4 : decode cX11_check 4 = .ok (.ifCond .ne 19, 3) := by decide +kernel
theorem dX11_check_7 : decode cX11_check 7 = .ok (.aload_n 0, 1) := by decide +kernel
theorem dX11_check_8 : decode cX11_check 8 = .ok (.getfield 10, 3) := by decide +kernel
theorem dX11_check_11 : decode cX11_check 11 = .ok (.getfield 303, 3) := by decide +kernel
theorem dX11_check_14 : decode cX11_check 14 = .ok (.invokevirtual 171, 3) := by decide +kernel
theorem dX11_check_17 : decode cX11_check 17 = .ok (.aload_n 0, 1) := by decide +kernel
theorem dX11_check_18 : decode cX11_check 18 = .ok (.iconst 1, 1) := by decide +kernel
theorem dX11_check_19 : decode cX11_check 19 = .ok (.invokevirtual 67, 3) := by decide +kernel
theorem dX11_check_22 : decode cX11_check 22 = .ok (.ireturn, 1) := by decide +kernel
theorem dX11_check_23 : decode cX11_check 23 = .ok (.aload_n 0, 1) := by decide +kernel
theorem dX11_check_24 : decode cX11_check 24 = .ok (.iload_n 1, 1) := by decide +kernel
theorem dX11_check_25 : decode cX11_check 25 = .ok (.invokevirtual 204, 3) := by decide +kernel
theorem dX11_check_28 : decode cX11_check 28 = .ok (.aload_n 0, 1) := by decide +kernel
theorem dX11_check_29 : decode cX11_check 29 = .ok (.getfield 22, 3) := by decide +kernel
theorem dX11_check_32 : decode cX11_check 32 = .ok (.aload_n 0, 1) := by decide +kernel
theorem dX11_check_33 : decode cX11_check 33 = .ok (.getfield 42, 3) := by decide +kernel
theorem dX11_check_36 : decode cX11_check 36 = .ok (.invokevirtual 198, 3) := by decide +kernel
theorem dX11_check_39 : decode cX11_check 39 = .ok (.pop, 1) := by decide +kernel
theorem dX11_check_40 : decode cX11_check 40 = .ok (.aload_n 0, 1) := by decide +kernel
theorem dX11_check_41 : decode cX11_check 41 = .ok (.getfield 10, 3) := by decide +kernel
theorem dX11_check_44 : decode cX11_check 44 = .ok (.getfield 303, 3) := by decide +kernel
theorem dX11_check_47 : decode cX11_check 47 = .ok (.aload_n 0, 1) := by decide +kernel
theorem dX11_check_48 : decode cX11_check 48 = .ok (.getfield 42, 3) := by decide +kernel
theorem dX11_check_51 : decode cX11_check 51 = .ok (.invokevirtual 257, 3) := by decide +kernel
theorem dX11_check_54 : decode cX11_check 54 = .ok (.istore_n 2, 1) := by decide +kernel
theorem dX11_check_55 : decode cX11_check 55 = .ok (.aload_n 0, 1) := by decide +kernel
theorem dX11_check_56 : decode cX11_check 56 = .ok (.getfield 10, 3) := by decide +kernel
theorem dX11_check_59 : decode cX11_check 59 = .ok (.getfield 303, 3) := by decide +kernel
theorem dX11_check_62 : decode cX11_check 62 = .ok (.invokevirtual 171, 3) := by decide +kernel
theorem dX11_check_65 : decode cX11_check 65 = .ok (.iconst 1, 1) := by decide +kernel
theorem dX11_check_66 : decode cX11_check 66 = .ok (.iload_n 2, 1) := by decide +kernel
theorem dX11_check_67 : decode cX11_check 67 = .ok (.iadd, 1) := by decide +kernel
theorem dX11_check_68 : decode cX11_check 68 = .ok (.ireturn, 1) := by decide +kernel
theorem dX11_count_0 : decode cX11_count 0 = .ok (.aload_n 0, 1) := by decide +kernel
theorem dX11_count_1 : decode cX11_count 1 = .ok (.getfield 10, 3) := by decide +kernel
theorem dX11_count_4 : decode cX11_count 4 = .ok (.getfield 56, 3) := by decide +kernel
theorem dX11_count_7 : decode cX11_count 7 = .ok (.astore_n 2, 1) := by decide +kernel
theorem dX11_count_8 : decode cX11_count 8 = .ok (.iload_n 1, 1) := by decide +kernel
theorem dX11_count_9 : decode cX11_count 9 = .ok (.tableswitch 126 0 9 #[55, 60, 65, 70, 78, 83, 88, 99, 110, 118], 55) := by decide +kernel
theorem dX11_count_64 : decode cX11_count 64 = .ok (.aload_n 2, 1) := by decide +kernel
theorem dX11_count_65 : decode cX11_count 65 = .ok (.getfield 182, 3) := by decide +kernel
theorem dX11_count_68 : decode cX11_count 68 = .ok (.ireturn, 1) := by decide +kernel
theorem dX11_count_69 : decode cX11_count 69 = .ok (.aload_n 2, 1) := by decide +kernel
theorem dX11_count_70 : decode cX11_count 70 = .ok (.getfield 98, 3) := by decide +kernel
theorem dX11_count_73 : decode cX11_count 73 = .ok (.ireturn, 1) := by decide +kernel
theorem dX11_count_74 : decode cX11_count 74 = .ok (.aload_n 2, 1) := by decide +kernel
theorem dX11_count_75 : decode cX11_count 75 = .ok (.getfield 117, 3) := by decide +kernel
theorem dX11_count_78 : decode cX11_count 78 = .ok (.ireturn, 1) := by decide +kernel
theorem dX11_count_79 : decode cX11_count 79 = .ok (.aload_n 0, 1) := by decide +kernel
theorem dX11_count_80 : decode cX11_count 80 = .ok (.getfield 10, 3) := by decide +kernel
theorem dX11_count_83 : decode cX11_count 83 = .ok (.invokevirtual 241, 3) := by decide +kernel
theorem dX11_count_86 : decode cX11_count 86 = .ok (.ireturn, 1) := by decide +kernel
theorem dX11_count_87 : decode cX11_count 87 = .ok (.aload_n 2, 1) := by decide +kernel
theorem dX11_count_88 : decode cX11_count 88 = .ok (.getfield 207, 3) := by decide +kernel
theorem dX11_count_91 : decode cX11_count 91 = .ok (.ireturn, 1) := by decide +kernel
theorem dX11_count_92 : decode cX11_count 92 = .ok (.aload_n 2, 1) := by decide +kernel
theorem dX11_count_93 : decode cX11_count 93 = .ok (.getfield 210, 3) := by decide +kernel
theorem dX11_count_96 : decode cX11_count 96 = .ok (.ireturn, 1) := by decide +kernel
theorem dX11_count_97 : decode cX11_count 97 = .ok (.aload_n 0, 1) := by decide +kernel
theorem dX11_count_98 : decode cX11_count 98 = .ok (.getfield 10, 3) := by decide +kernel
theorem dX11_count_101 : decode cX11_count 101 = .ok (.getfield 158, 3) := by decide +kernel
theorem dX11_count_104 : decode cX11_count 104 = .ok (.getfield 95, 3) := by decide +kernel
theorem dX11_count_107 : decode cX11_count 107 = .ok (.ireturn, 1) := by decide +kernel
theorem dX11_count_108 : decode cX11_count 108 = .ok (.aload_n 0, 1) := by decide +kernel
theorem dX11_count_109 : decode cX11_count 109 = .ok (.getfield 10, 3) := by decide +kernel
theorem dX11_count_112 : decode cX11_count 112 = .ok (.getfield 303, 3) := by decide +kernel
theorem dX11_count_115 : decode cX11_count 115 = .ok (.getfield 95, 3) := by decide +kernel
theorem dX11_count_118 : decode cX11_count 118 = .ok (.ireturn, 1) := by decide +kernel
theorem dX11_count_119 : decode cX11_count 119 = .ok (.aload_n 0, 1) := by decide +kernel
theorem dX11_count_120 : decode cX11_count 120 = .ok (.getfield 45, 3) := by decide +kernel
theorem dX11_count_123 : decode cX11_count 123 = .ok (.getfield 95, 3) := by decide +kernel
theorem dX11_count_126 : decode cX11_count 126 = .ok (.ireturn, 1) := by decide +kernel
theorem dX11_count_127 : decode cX11_count 127 = .ok (.aload_n 0, 1) := by decide +kernel
theorem dX11_count_128 : decode cX11_count 128 = .ok (.getfield 10, 3) := by decide +kernel
theorem dX11_count_131 : decode cX11_count 131 = .ok (.getfield 260, 3) := by decide +kernel
theorem dX11_count_134 : decode cX11_count 134 = .ok (.ireturn, 1) := by decide +kernel
theorem dX11_count_135 : decode cX11_count 135 = .ok (.aload_n 0, 1) := by decide +kernel
theorem dX11_count_136 : decode cX11_count 136 = .ok (.iconst 1, 1) := by decide +kernel
theorem dX11_count_137 : decode cX11_count 137 = .ok (.invokevirtual 67, 3) := by decide +kernel
theorem dX11_count_140 : decode cX11_count 140 = .ok (.ireturn, 1) := by decide +kernel
theorem dX11_told_0 : decode cX11_told 0 = .ok (.iload_n 1, 1) := by decide +kernel
theorem dX11_told_1 : decode cX11_told 1 = .ok (.iconst 1, 1) := by decide +kernel
theorem dX11_told_2 : decode cX11_told 2 = .ok (.iconst 5, 1) := by decide +kernel
theorem dX11_told_3 : decode cX11_told 3 = .ok (.invokestatic 63, 3) := by decide +kernel
theorem dX11_told_6 : decode cX11_told 6 = .ok (.ifCond .eq 12, 3) := by decide +kernel
theorem dX11_told_9 : decode cX11_told 9 = .ok (.aload_n 0, 1) := by decide +kernel
theorem dX11_told_10 : decode cX11_told 10 = .ok (.getfield 48, 3) := by decide +kernel
theorem dX11_told_13 : decode cX11_told 13 = .ok (.iload_n 1, 1) := by decide +kernel
theorem dX11_told_14 : decode cX11_told 14 = .ok (.iaload, 1) := by decide +kernel
theorem dX11_told_15 : decode cX11_told 15 = .ok (.goto 8, 3) := by decide +kernel
theorem dX11_told_18 : decode cX11_told 18 = .ok (.aload_n 0, 1) := by decide +kernel
theorem dX11_told_19 : decode cX11_told 19 = .ok (.iconst 1, 1) := by decide +kernel
theorem dX11_told_20 : decode cX11_told 20 = .ok (.invokevirtual 67, 3) := by decide +kernel
theorem dX11_told_23 : decode cX11_told 23 = .ok (.ireturn, 1) := by decide +kernel
theorem dX11_fail_0 : decode cX11_fail 0 = .ok (.iload_n 1, 1) := by decide +kernel
theorem dX11_fail_1 : decode cX11_fail 1 = .ok (.iconst 1, 1) := by decide +kernel
theorem dX11_fail_2 : decode cX11_fail 2 = .ok (.iconst 5, 1) := by decide +kernel
theorem dX11_fail_3 : decode cX11_fail 3 = .ok (.invokestatic 63, 3) := by decide +kernel
theorem dX11_fail_6 : decode cX11_fail 6 = .ok (.ifCond .eq 13, 3) := by decide +kernel
theorem dX11_fail_9 : decode cX11_fail 9 = .ok (.aload_n 0, 1) := by decide +kernel
theorem dX11_fail_10 : decode cX11_fail 10 = .ok (.getfield 48, 3) := by decide +kernel
theorem dX11_fail_13 : decode cX11_fail 13 = .ok (.iload_n 1, 1) := by decide +kernel
theorem dX11_fail_14 : decode cX11_fail 14 = .ok (.dup2, 1) := by decide +kernel
theorem dX11_fail_15 : decode cX11_fail 15 = .ok (.iaload, 1) := by decide +kernel
theorem dX11_fail_16 : decode cX11_fail 16 = .ok (.iconst 1, 1) := by decide +kernel
theorem dX11_fail_17 : decode cX11_fail 17 = .ok (.iadd, 1) := by decide +kernel
theorem dX11_fail_18 : decode cX11_fail 18 = .ok (.iastore, 1) := by decide +kernel
theorem dX11_fail_19 : decode cX11_fail 19 = .ok (.ldc_w 306, 3) := by decide +kernel
theorem dX11_fail_22 : decode cX11_fail 22 = .ok (.iload_n 1, 1) := by decide +kernel
theorem dX11_fail_23 : decode cX11_fail 23 = .ok (.isub, 1) := by decide +kernel
theorem dX11_fail_24 : decode cX11_fail 24 = .ok (.ireturn, 1) := by decide +kernel
theorem dX11_within_0 : decode cX11_within 0 = .ok (.iload_n 1, 1) := by decide +kernel
theorem dX11_within_1 : decode cX11_within 1 = .ok (.iload_n 0, 1) := by decide +kernel
theorem dX11_within_2 : decode cX11_within 2 = .ok (.if_icmp .gt 12, 3) := by decide +kernel
theorem dX11_within_5 : decode cX11_within 5 = .ok (.iload_n 0, 1) := by decide +kernel
theorem dX11_within_6 : decode cX11_within 6 = .ok (.iload_n 2, 1) := by decide +kernel
theorem dX11_within_7 : decode cX11_within 7 = .ok (.if_icmp .gt 7, 3) := by decide +kernel
theorem dX11_within_10 : decode cX11_within 10 = .ok (.iconst 1, 1) := by decide +kernel
theorem dX11_within_11 : decode cX11_within 11 = .ok (.goto 4, 3) := by decide +kernel
theorem dX11_within_14 : decode cX11_within 14 = .ok (.iconst 0, 1) := by decide +kernel
theorem dX11_within_15 : decode cX11_within 15 = .ok (.ireturn, 1) := by decide +kernel
theorem dX11_isAhead_0 : decode cX11_isAhead 0 = .ok (.iload_n 0, 1) := by decide +kernel
theorem dX11_isAhead_1 : decode cX11_isAhead 1 = .ok (.iconst 0, 1) := by decide +kernel
theorem dX11_isAhead_2 : decode cX11_isAhead 2 = .ok (.bipush 60, 2) := by decide +kernel
theorem dX11_isAhead_4 : decode cX11_isAhead 4 = .ok (.invokestatic 63, 3) := by decide +kernel
theorem dX11_isAhead_7 : decode cX11_isAhead 7 = .ok (.ireturn, 1) := by decide +kernel
theorem dX11_isSheet_0 : decode cX11_isSheet 0 = .ok (.iload_n 0, 1) := by decide +kernel
theorem dX11_isSheet_1 : decode cX11_isSheet 1 = .ok (.iconst 0, 1) := by decide +kernel
theorem dX11_isSheet_2 : decode cX11_isSheet 2 = .ok (.iconst 3, 1) := by decide +kernel
theorem dX11_isSheet_3 : decode cX11_isSheet 3 = .ok (.invokestatic 63, 3) := by decide +kernel
theorem dX11_isSheet_6 : decode cX11_isSheet 6 = .ok (.ireturn, 1) := by decide +kernel
theorem dX11_isWidthOfSheet_0 : decode cX11_isWidthOfSheet 0 = .ok (.iload_n 0, 1) := by decide +kernel
theorem dX11_isWidthOfSheet_1 : decode cX11_isWidthOfSheet 1 = .ok (.ifCond .eq 21, 3) := by decide +kernel
theorem dX11_isWidthOfSheet_4 : decode cX11_isWidthOfSheet 4 = .ok (.iload_n 0, 1) := by decide +kernel
theorem dX11_isWidthOfSheet_5 : decode cX11_isWidthOfSheet 5 = .ok (.bipush 8, 2) := by decide +kernel
theorem dX11_isWidthOfSheet_7 : decode cX11_isWidthOfSheet 7 = .ok (.if_icmp .eq 15, 3) := by decide +kernel
theorem dX11_isWidthOfSheet_10 : decode cX11_isWidthOfSheet 10 = .ok (.iload_n 0, 1) := by decide +kernel
theorem dX11_isWidthOfSheet_11 : decode cX11_isWidthOfSheet 11 = .ok (.bipush 16, 2) := by decide +kernel
theorem dX11_isWidthOfSheet_13 : decode cX11_isWidthOfSheet 13 = .ok (.if_icmp .eq 9, 3) := by decide +kernel
theorem dX11_isWidthOfSheet_16 : decode cX11_isWidthOfSheet 16 = .ok (.iload_n 0, 1) := by decide +kernel
theorem dX11_isWidthOfSheet_17 : decode cX11_isWidthOfSheet 17 = .ok (.bipush 32, 2) := by decide +kernel
theorem dX11_isWidthOfSheet_19 : decode cX11_isWidthOfSheet 19 = .ok (.if_icmp .ne 7, 3) := by decide +kernel
theorem dX11_isWidthOfSheet_22 : decode cX11_isWidthOfSheet 22 = .ok (.iconst 1, 1) := by decide +kernel
theorem dX11_isWidthOfSheet_23 : decode cX11_isWidthOfSheet 23 = .ok (.goto 4, 3) := by decide +kernel
theorem dX11_isWidthOfSheet_26 : decode cX11_isWidthOfSheet 26 = .ok (.iconst 0, 1) := by decide +kernel
theorem dX11_isWidthOfSheet_27 : decode cX11_isWidthOfSheet 27 = .ok (.ireturn, 1) := by decide +kernel
theorem dX11_isSetting_0 : decode cX11_isSetting 0 = .ok (.iload_n 0, 1) := by decide +kernel
theorem dX11_isSetting_1 : decode cX11_isSetting 1 = .ok (.iconst 0, 1) := by decide +kernel
theorem dX11_isSetting_2 : decode cX11_isSetting 2 = .ok (.iconst 5, 1) := by decide +kernel
theorem dX11_isSetting_3 : decode cX11_isSetting 3 = .ok (.invokestatic 63, 3) := by decide +kernel
theorem dX11_isSetting_6 : decode cX11_isSetting 6 = .ok (.ifCond .eq 24, 3) := by decide +kernel
theorem dX11_isSetting_9 : decode cX11_isSetting 9 = .ok (.iload_n 1, 1) := by decide +kernel
theorem dX11_isSetting_10 : decode cX11_isSetting 10 = .ok (.getstatic 226, 3) := by decide +kernel
theorem dX11_isSetting_13 : decode cX11_isSetting 13 = .ok (.iload_n 0, 1) := by decide +kernel
theorem dX11_isSetting_14 : decode cX11_isSetting 14 = .ok (.iaload, 1) := by decide +kernel
theorem dX11_isSetting_15 : decode cX11_isSetting 15 = .ok (.getstatic 229, 3) := by decide +kernel
theorem dX11_isSetting_18 : decode cX11_isSetting 18 = .ok (.iload_n 0, 1) := by decide +kernel
theorem dX11_isSetting_19 : decode cX11_isSetting 19 = .ok (.iaload, 1) := by decide +kernel
theorem dX11_isSetting_20 : decode cX11_isSetting 20 = .ok (.invokestatic 63, 3) := by decide +kernel
theorem dX11_isSetting_23 : decode cX11_isSetting 23 = .ok (.ifCond .eq 7, 3) := by decide +kernel
theorem dX11_isSetting_26 : decode cX11_isSetting 26 = .ok (.iconst 1, 1) := by decide +kernel
theorem dX11_isSetting_27 : decode cX11_isSetting 27 = .ok (.goto 4, 3) := by decide +kernel
theorem dX11_isSetting_30 : decode cX11_isSetting 30 = .ok (.iconst 0, 1) := by decide +kernel
theorem dX11_isSetting_31 : decode cX11_isSetting 31 = .ok (.ireturn, 1) := by decide +kernel
theorem dX11_causeAt_0 : decode cX11_causeAt 0 = .ok (.aload_n 0, 1) := by decide +kernel
theorem dX11_causeAt_1 : decode cX11_causeAt 1 = .ok (.getfield 10, 3) := by decide +kernel
theorem dX11_causeAt_4 : decode cX11_causeAt 4 = .ok (.getfield 56, 3) := by decide +kernel
theorem dX11_causeAt_7 : decode cX11_causeAt 7 = .ok (.astore_n 2, 1) := by decide +kernel
theorem dX11_causeAt_8 : decode cX11_causeAt 8 = .ok (.iload_n 1, 1) := by decide +kernel
theorem dX11_causeAt_9 : decode cX11_causeAt 9 = .ok (.iconst 0, 1) := by decide +kernel
theorem dX11_causeAt_10 : decode cX11_causeAt 10 = .ok (.aload_n 2, 1) := by decide +kernel
theorem dX11_causeAt_11 : decode cX11_causeAt 11 = .ok (.getfield 117, 3) := by decide +kernel
theorem dX11_causeAt_14 : decode cX11_causeAt 14 = .ok (.iconst 1, 1) := by decide +kernel
theorem dX11_causeAt_15 : decode cX11_causeAt 15 = .ok (.isub, 1) := by decide +kernel
theorem dX11_causeAt_16 : decode cX11_causeAt 16 = .ok (.invokestatic 63, 3) := by decide +kernel
theorem dX11_causeAt_19 : decode cX11_causeAt 19 = .ok (.ifCond .eq 12, 3) := by decide +kernel
theorem dX11_causeAt_22 : decode cX11_causeAt 22 = .ok (.aload_n 2, 1) := by decide +kernel
theorem dX11_causeAt_23 : decode cX11_causeAt 23 = .ok (.getfield 120, 3) := by decide +kernel
theorem dX11_causeAt_26 : decode cX11_causeAt 26 = .ok (.iload_n 1, 1) := by decide +kernel
theorem dX11_causeAt_27 : decode cX11_causeAt 27 = .ok (.aaload, 1) := by decide +kernel
theorem dX11_causeAt_28 : decode cX11_causeAt 28 = .ok (.goto 4, 3) := by decide +kernel
theorem dX11_causeAt_31 : decode cX11_causeAt 31 = .ok (.aconst_null, 1) := by decide +kernel
theorem dX11_causeAt_32 : decode cX11_causeAt 32 = .ok (.areturn, 1) := by decide +kernel
theorem dX11_onOf_0 : decode cX11_onOf 0 = .ok (.aload_n 0, 1) := by decide +kernel
theorem dX11_onOf_1 : decode cX11_onOf 1 = .ok (.getfield 10, 3) := by decide +kernel
theorem dX11_onOf_4 : decode cX11_onOf 4 = .ok (.getfield 56, 3) := by decide +kernel
theorem dX11_onOf_7 : decode cX11_onOf 7 = .ok (.getfield 128, 3) := by decide +kernel
theorem dX11_onOf_10 : decode cX11_onOf 10 = .ok (.iload_n 1, 1) := by decide +kernel
theorem dX11_onOf_11 : decode cX11_onOf 11 = .ok (.ishr, 1) := by decide +kernel
theorem dX11_onOf_12 : decode cX11_onOf 12 = .ok (.iconst 1, 1) := by decide +kernel
theorem dX11_onOf_13 : decode cX11_onOf 13 = .ok (.iand, 1) := by decide +kernel
theorem dX11_onOf_14 : decode cX11_onOf 14 = .ok (.ireturn, 1) := by decide +kernel
theorem dX11_goAhead_0 : decode cX11_goAhead 0 = .ok (.aload_n 0, 1) := by decide +kernel
theorem dX11_goAhead_1 : decode cX11_goAhead 1 = .ok (.getfield 22, 3) := by decide +kernel
theorem dX11_goAhead_4 : decode cX11_goAhead 4 = .ok (.aload_n 0, 1) := by decide +kernel
theorem dX11_goAhead_5 : decode cX11_goAhead 5 = .ok (.getfield 10, 3) := by decide +kernel
theorem dX11_goAhead_8 : decode cX11_goAhead 8 = .ok (.getfield 56, 3) := by decide +kernel
theorem dX11_goAhead_11 : decode cX11_goAhead 11 = .ok (.invokevirtual 222, 3) := by decide +kernel
theorem dX11_goAhead_14 : decode cX11_goAhead 14 = .ok (.aload_n 0, 1) := by decide +kernel
theorem dX11_goAhead_15 : decode cX11_goAhead 15 = .ok (.getfield 22, 3) := by decide +kernel
theorem dX11_goAhead_18 : decode cX11_goAhead 18 = .ok (.iload_n 1, 1) := by decide +kernel
theorem dX11_goAhead_19 : decode cX11_goAhead 19 = .ok (.invokevirtual 185, 3) := by decide +kernel
theorem dX11_goAhead_22 : decode cX11_goAhead 22 = .ok (.return_, 1) := by decide +kernel
theorem dX11_startAnew_0 : decode cX11_startAnew 0 = .ok (.aload_n 0, 1) := by decide +kernel
theorem dX11_startAnew_1 : decode cX11_startAnew 1 = .ok (.getfield 22, 3) := by decide +kernel
theorem dX11_startAnew_4 : decode cX11_startAnew 4 = .ok (.aload_n 0, 1) := by decide +kernel
theorem dX11_startAnew_5 : decode cX11_startAnew 5 = .ok (.getfield 10, 3) := by decide +kernel
theorem dX11_startAnew_8 : decode cX11_startAnew 8 = .ok (.getfield 56, 3) := by decide +kernel
theorem dX11_startAnew_11 : decode cX11_startAnew 11 = .ok (.invokevirtual 222, 3) := by decide +kernel
theorem dX11_startAnew_14 : decode cX11_startAnew 14 = .ok (.aload_n 0, 1) := by decide +kernel
theorem dX11_startAnew_15 : decode cX11_startAnew 15 = .ok (.getfield 22, 3) := by decide +kernel
theorem dX11_startAnew_18 : decode cX11_startAnew 18 = .ok (.invokevirtual 307, 3) := by decide +kernel
theorem dX11_startAnew_21 : decode cX11_startAnew 21 = .ok (.return_, 1) := by decide +kernel
theorem dX11_newCause_0 : decode cX11_newCause 0 = .ok (.iload_n 0, 1) := by decide +kernel
theorem dX11_newCause_1 : decode cX11_newCause 1 = .ok (.tableswitch 105 1 6 #[39, 50, 61, 72, 83, 94], 39) := by decide +kernel
theorem dX11_newCause_40 : decode cX11_newCause 40 = .ok (.new 310, 3) := by decide +kernel
theorem dX11_newCause_43 : decode cX11_newCause 43 = .ok (.dup, 1) := by decide +kernel
theorem dX11_newCause_44 : decode cX11_newCause 44 = .ok (.iload_n 0, 1) := by decide +kernel
theorem dX11_newCause_45 : decode cX11_newCause 45 = .ok (.iload_n 1, 1) := by decide +kernel
theorem dX11_newCause_46 : decode cX11_newCause 46 = .ok (.iload_n 2, 1) := by decide +kernel
theorem dX11_newCause_47 : decode cX11_newCause 47 = .ok (.invokespecial 312, 3) := by decide +kernel
theorem dX11_newCause_50 : decode cX11_newCause 50 = .ok (.areturn, 1) := by decide +kernel
theorem dX11_newCause_51 : decode cX11_newCause 51 = .ok (.new 315, 3) := by decide +kernel
theorem dX11_newCause_54 : decode cX11_newCause 54 = .ok (.dup, 1) := by decide +kernel
theorem dX11_newCause_55 : decode cX11_newCause 55 = .ok (.iload_n 0, 1) := by decide +kernel
theorem dX11_newCause_56 : decode cX11_newCause 56 = .ok (.iload_n 1, 1) := by decide +kernel
theorem dX11_newCause_57 : decode cX11_newCause 57 = .ok (.iload_n 2, 1) := by decide +kernel
theorem dX11_newCause_58 : decode cX11_newCause 58 = .ok (.invokespecial 317, 3) := by decide +kernel
theorem dX11_newCause_61 : decode cX11_newCause 61 = .ok (.areturn, 1) := by decide +kernel
theorem dX11_newCause_62 : decode cX11_newCause 62 = .ok (.new 318, 3) := by decide +kernel
theorem dX11_newCause_65 : decode cX11_newCause 65 = .ok (.dup, 1) := by decide +kernel
theorem dX11_newCause_66 : decode cX11_newCause 66 = .ok (.iload_n 0, 1) := by decide +kernel
theorem dX11_newCause_67 : decode cX11_newCause 67 = .ok (.iload_n 1, 1) := by decide +kernel
theorem dX11_newCause_68 : decode cX11_newCause 68 = .ok (.iload_n 2, 1) := by decide +kernel
theorem dX11_newCause_69 : decode cX11_newCause 69 = .ok (.invokespecial 320, 3) := by decide +kernel
theorem dX11_newCause_72 : decode cX11_newCause 72 = .ok (.areturn, 1) := by decide +kernel
theorem dX11_newCause_73 : decode cX11_newCause 73 = .ok (.new 321, 3) := by decide +kernel
theorem dX11_newCause_76 : decode cX11_newCause 76 = .ok (.dup, 1) := by decide +kernel
theorem dX11_newCause_77 : decode cX11_newCause 77 = .ok (.iload_n 0, 1) := by decide +kernel
theorem dX11_newCause_78 : decode cX11_newCause 78 = .ok (.iload_n 1, 1) := by decide +kernel
theorem dX11_newCause_79 : decode cX11_newCause 79 = .ok (.iload_n 2, 1) := by decide +kernel
theorem dX11_newCause_80 : decode cX11_newCause 80 = .ok (.invokespecial 323, 3) := by decide +kernel
theorem dX11_newCause_83 : decode cX11_newCause 83 = .ok (.areturn, 1) := by decide +kernel
theorem dX11_newCause_84 : decode cX11_newCause 84 = .ok (.new 324, 3) := by decide +kernel
theorem dX11_newCause_87 : decode cX11_newCause 87 = .ok (.dup, 1) := by decide +kernel
theorem dX11_newCause_88 : decode cX11_newCause 88 = .ok (.iload_n 0, 1) := by decide +kernel
theorem dX11_newCause_89 : decode cX11_newCause 89 = .ok (.iload_n 1, 1) := by decide +kernel
theorem dX11_newCause_90 : decode cX11_newCause 90 = .ok (.iload_n 2, 1) := by decide +kernel
theorem dX11_newCause_91 : decode cX11_newCause 91 = .ok (.invokespecial 326, 3) := by decide +kernel
theorem dX11_newCause_94 : decode cX11_newCause 94 = .ok (.areturn, 1) := by decide +kernel
theorem dX11_newCause_95 : decode cX11_newCause 95 = .ok (.new 327, 3) := by decide +kernel
theorem dX11_newCause_98 : decode cX11_newCause 98 = .ok (.dup, 1) := by decide +kernel
theorem dX11_newCause_99 : decode cX11_newCause 99 = .ok (.iload_n 0, 1) := by decide +kernel
theorem dX11_newCause_100 : decode cX11_newCause 100 = .ok (.iload_n 1, 1) := by decide +kernel
theorem dX11_newCause_101 : decode cX11_newCause 101 = .ok (.iload_n 2, 1) := by decide +kernel
theorem dX11_newCause_102 : decode cX11_newCause 102 = .ok (.invokespecial 329, 3) := by decide +kernel
theorem dX11_newCause_105 : decode cX11_newCause 105 = .ok (.areturn, 1) := by decide +kernel
theorem dX11_newCause_106 : decode cX11_newCause 106 = .ok (.new 136, 3) := by decide +kernel
theorem dX11_newCause_109 : decode cX11_newCause 109 = .ok (.dup, 1) := by decide +kernel
theorem dX11_newCause_110 : decode cX11_newCause 110 = .ok (.iload_n 0, 1) := by decide +kernel
theorem dX11_newCause_111 : decode cX11_newCause 111 = .ok (.iload_n 1, 1) := by decide +kernel
theorem dX11_newCause_112 : decode cX11_newCause 112 = .ok (.iload_n 2, 1) := by decide +kernel
theorem dX11_newCause_113 : decode cX11_newCause 113 = .ok (.invokespecial 330, 3) := by decide +kernel
theorem dX11_newCause_116 : decode cX11_newCause 116 = .ok (.areturn, 1) := by decide +kernel
theorem dX11_isOfKind_0 : decode cX11_isOfKind 0 = .ok (.iload_n 1, 1) := by decide +kernel
theorem dX11_isOfKind_1 : decode cX11_isOfKind 1 = .ok (.tableswitch 75 0 6 #[43, 45, 50, 55, 60, 65, 70], 43) := by decide +kernel
theorem dX11_isOfKind_44 : decode cX11_isOfKind 44 = .ok (.iconst 1, 1) := by decide +kernel
theorem dX11_isOfKind_45 : decode cX11_isOfKind 45 = .ok (.ireturn, 1) := by decide +kernel
theorem dX11_isOfKind_46 : decode cX11_isOfKind 46 = .ok (.aload_n 0, 1) := by decide +kernel
theorem dX11_isOfKind_47 : decode cX11_isOfKind 47 = .ok (.instanceof 310, 3) := by decide +kernel
theorem dX11_isOfKind_50 : decode cX11_isOfKind 50 = .ok (.ireturn, 1) := by decide +kernel
theorem dX11_isOfKind_51 : decode cX11_isOfKind 51 = .ok (.aload_n 0, 1) := by decide +kernel
theorem dX11_isOfKind_52 : decode cX11_isOfKind 52 = .ok (.instanceof 315, 3) := by decide +kernel
theorem dX11_isOfKind_55 : decode cX11_isOfKind 55 = .ok (.ireturn, 1) := by decide +kernel
theorem dX11_isOfKind_56 : decode cX11_isOfKind 56 = .ok (.aload_n 0, 1) := by decide +kernel
theorem dX11_isOfKind_57 : decode cX11_isOfKind 57 = .ok (.instanceof 318, 3) := by decide +kernel
theorem dX11_isOfKind_60 : decode cX11_isOfKind 60 = .ok (.ireturn, 1) := by decide +kernel
theorem dX11_isOfKind_61 : decode cX11_isOfKind 61 = .ok (.aload_n 0, 1) := by decide +kernel
theorem dX11_isOfKind_62 : decode cX11_isOfKind 62 = .ok (.instanceof 321, 3) := by decide +kernel
theorem dX11_isOfKind_65 : decode cX11_isOfKind 65 = .ok (.ireturn, 1) := by decide +kernel
theorem dX11_isOfKind_66 : decode cX11_isOfKind 66 = .ok (.aload_n 0, 1) := by decide +kernel
theorem dX11_isOfKind_67 : decode cX11_isOfKind 67 = .ok (.instanceof 324, 3) := by decide +kernel
theorem dX11_isOfKind_70 : decode cX11_isOfKind 70 = .ok (.ireturn, 1) := by decide +kernel
theorem dX11_isOfKind_71 : decode cX11_isOfKind 71 = .ok (.aload_n 0, 1) := by decide +kernel
theorem dX11_isOfKind_72 : decode cX11_isOfKind 72 = .ok (.instanceof 327, 3) := by decide +kernel
theorem dX11_isOfKind_75 : decode cX11_isOfKind 75 = .ok (.ireturn, 1) := by decide +kernel
theorem dX11_isOfKind_76 : decode cX11_isOfKind 76 = .ok (.iconst 0, 1) := by decide +kernel
theorem dX11_isOfKind_77 : decode cX11_isOfKind 77 = .ok (.ireturn, 1) := by decide +kernel
