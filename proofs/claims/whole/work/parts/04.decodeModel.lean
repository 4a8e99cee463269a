theorem dX8_init_0 : decode cX8_init 0 = .ok (.aload_n 0, 1) := by decide +kernel
theorem dX8_init_1 : decode cX8_init 1 = .ok (.invokespecial 1, 3) := by decide +kernel
theorem dX8_init_4 : decode cX8_init 4 = .ok (.aload_n 0, 1) := by decide +kernel
theorem dX8_init_5 : decode cX8_init 5 = .ok (.bipush 80, 2) := by decide +kernel
theorem dX8_init_7 : decode cX8_init 7 = .ok (.newarray .int, 2) := by decide +kernel
theorem dX8_init_9 : decode cX8_init 9 = .ok (.putfield 7, 3) := by decide +kernel
theorem dX8_init_12 : decode cX8_init 12 = .ok (.aload_n 0, 1) := by decide +kernel
theorem dX8_init_13 : decode cX8_init 13 = .ok (.iconst 1, 1) := by decide +kernel
theorem dX8_init_14 : decode cX8_init 14 = .ok (.putfield 13, 3) := by decide +kernel
theorem dX8_init_17 : decode cX8_init 17 = .ok (.aload_n 0, 1) := by decide +kernel
theorem dX8_init_18 : decode cX8_init 18 = .ok (.bipush 8, 2) := by decide +kernel
theorem dX8_init_20 : decode cX8_init 20 = .ok (.newarray .int, 2) := by decide +kernel
theorem dX8_init_22 : decode cX8_init 22 = .ok (.putfield 17, 3) := by decide +kernel
theorem dX8_init_25 : decode cX8_init 25 = .ok (.aload_n 0, 1) := by decide +kernel
theorem dX8_init_26 : decode cX8_init 26 = .ok (.bipush 8, 2) := by decide +kernel
theorem dX8_init_28 : decode cX8_init 28 = .ok (.newarray .int, 2) := by decide +kernel
theorem dX8_init_30 : decode cX8_init 30 = .ok (.putfield 20, 3) := by decide +kernel
theorem dX8_init_33 : decode cX8_init 33 = .ok (.aload_n 0, 1) := by decide +kernel
theorem dX8_init_34 : decode cX8_init 34 = .ok (.bipush 8, 2) := by decide +kernel
theorem dX8_init_36 : decode cX8_init 36 = .ok (.newarray .int, 2) := by decide +kernel
theorem dX8_init_38 : decode cX8_init 38 = .ok (.putfield 23, 3) := by decide +kernel
theorem dX8_init_41 : decode cX8_init 41 = .ok (.aload_n 0, 1) := by decide +kernel
theorem dX8_init_42 : decode cX8_init 42 = .ok (.bipush 8, 2) := by decide +kernel
theorem dX8_init_44 : decode cX8_init 44 = .ok (.newarray .int, 2) := by decide +kernel
theorem dX8_init_46 : decode cX8_init 46 = .ok (.putfield 26, 3) := by decide +kernel
theorem dX8_init_49 : decode cX8_init 49 = .ok (.aload_n 0, 1) := by decide +kernel
theorem dX8_init_50 : decode cX8_init 50 = .ok (.bipush 8, 2) := by decide +kernel
theorem dX8_init_52 : decode cX8_init 52 = .ok (.newarray .int, 2) := by decide +kernel
theorem dX8_init_54 : decode cX8_init 54 = .ok (.putfield 29, 3) := by decide +kernel
theorem dX8_init_57 : decode cX8_init 57 = .ok (.aload_n 0, 1) := by decide +kernel
theorem dX8_init_58 : decode cX8_init 58 = .ok (.bipush 8, 2) := by decide +kernel
theorem dX8_init_60 : decode cX8_init 60 = .ok (.newarray .int, 2) := by decide +kernel
theorem dX8_init_62 : decode cX8_init 62 = .ok (.putfield 32, 3) := by decide +kernel
theorem dX8_init_65 : decode cX8_init 65 = .ok (.aload_n 0, 1) := by decide +kernel
theorem dX8_init_66 : decode cX8_init 66 = .ok (.bipush 8, 2) := by decide +kernel
theorem dX8_init_68 : decode cX8_init 68 = .ok (.newarray .int, 2) := by decide +kernel
theorem dX8_init_70 : decode cX8_init 70 = .ok (.putfield 35, 3) := by decide +kernel
theorem dX8_init_73 : decode cX8_init 73 = .ok (.aload_n 0, 1) := by decide +kernel
theorem dX8_init_74 : decode cX8_init 74 = .ok (.iconst 4, 1) := by decide +kernel
theorem dX8_init_75 : decode cX8_init 75 = .ok (.newarray .int, 2) := by decide +kernel
theorem dX8_init_77 : decode cX8_init 77 = .ok (.putfield 38, 3) := by decide +kernel
theorem dX8_init_80 : decode cX8_init 80 = .ok (.aload_n 0, 1) := by decide +kernel
theorem dX8_init_81 : decode cX8_init 81 = .ok (.bipush 8, 2) := by decide +kernel
theorem dX8_init_83 : decode cX8_init 83 = .ok (.newarray .int, 2) := by decide +kernel
theorem dX8_init_85 : decode cX8_init 85 = .ok (.putfield 41, 3) := by decide +kernel
theorem dX8_init_88 : decode cX8_init 88 = .ok (.aload_n 0, 1) := by decide +kernel
theorem dX8_init_89 : decode cX8_init 89 = .ok (.bipush 8, 2) := by decide +kernel
theorem dX8_init_91 : decode cX8_init 91 = .ok (.newarray .int, 2) := by decide +kernel
theorem dX8_init_93 : decode cX8_init 93 = .ok (.putfield 44, 3) := by decide +kernel
theorem dX8_init_96 : decode cX8_init 96 = .ok (.aload_n 0, 1) := by decide +kernel
theorem dX8_init_97 : decode cX8_init 97 = .ok (.bipush 8, 2) := by decide +kernel
theorem dX8_init_99 : decode cX8_init 99 = .ok (.newarray .int, 2) := by decide +kernel
theorem dX8_init_101 : decode cX8_init 101 = .ok (.putfield 47, 3) := by decide +kernel
theorem dX8_init_104 : decode cX8_init 104 = .ok (.aload_n 0, 1) := by decide +kernel
theorem dX8_init_105 : decode cX8_init 105 = .ok (.bipush 8, 2) := by decide +kernel
theorem dX8_init_107 : decode cX8_init 107 = .ok (.newarray .int, 2) := by decide +kernel
theorem dX8_init_109 : decode cX8_init 109 = .ok (.putfield 50, 3) := by decide +kernel
theorem dX8_init_112 : decode cX8_init 112 = .ok (.aload_n 0, 1) := by decide +kernel
theorem dX8_init_113 : decode cX8_init 113 = .ok (.sipush 464, 3) := by decide +kernel
theorem dX8_init_116 : decode cX8_init 116 = .ok (.newarray .int, 2) := by decide +kernel
theorem dX8_init_118 : decode cX8_init 118 = .ok (.putfield 53, 3) := by decide +kernel
theorem dX8_init_121 : decode cX8_init 121 = .ok (.aload_n 0, 1) := by decide +kernel
theorem dX8_init_122 : decode cX8_init 122 = .ok (.bipush 58, 2) := by decide +kernel
theorem dX8_init_124 : decode cX8_init 124 = .ok (.newarray .int, 2) := by decide +kernel
theorem dX8_init_126 : decode cX8_init 126 = .ok (.putfield 56, 3) := by decide +kernel
theorem dX8_init_129 : decode cX8_init 129 = .ok (.aload_n 0, 1) := by decide +kernel
theorem dX8_init_130 : decode cX8_init 130 = .ok (.iconst 2, 1) := by decide +kernel
theorem dX8_init_131 : decode cX8_init 131 = .ok (.newarray .boolean, 2) := by decide +kernel
theorem dX8_init_133 : decode cX8_init 133 = .ok (.putfield 59, 3) := by decide +kernel
theorem dX8_init_136 : decode cX8_init 136 = .ok (.aload_n 0, 1) := by decide +kernel
theorem dX8_init_137 : decode cX8_init 137 = .ok (.bipush 8, 2) := by decide +kernel
theorem dX8_init_139 : decode cX8_init 139 = .ok (.newarray .int, 2) := by decide +kernel
theorem dX8_init_141 : decode cX8_init 141 = .ok (.putfield 63, 3) := by decide +kernel
theorem dX8_init_144 : decode cX8_init 144 = .ok (.aload_n 0, 1) := by decide +kernel
theorem dX8_init_145 : decode cX8_init 145 = .ok (.bipush 8, 2) := by decide +kernel
theorem dX8_init_147 : decode cX8_init 147 = .ok (.newarray .int, 2) := by decide +kernel
theorem dX8_init_149 : decode cX8_init 149 = .ok (.putfield 66, 3) := by decide +kernel
theorem dX8_init_152 : decode cX8_init 152 = .ok (.return_, 1) := by decide +kernel
theorem dX8_in_0 : decode cX8_in 0 = .ok (.lload_n 0, 1) := by decide +kernel
theorem dX8_in_1 : decode cX8_in 1 = .ok (.lload_n 2, 1) := by decide +kernel
theorem dX8_in_2 : decode cX8_in 2 = .ok (.lcmp, 1) := by decide +kernel
theorem dX8_in_3 : decode cX8_in 3 = .ok (.ifCond .lt 14, 3) := by decide +kernel
theorem dX8_in_6 : decode cX8_in 6 = .ok (.lload_n 0, 1) := by decide +kernel
theorem dX8_in_7 : decode cX8_in 7 = .ok (.lload 4, 2) := by decide +kernel
theorem dX8_in_9 : decode cX8_in 9 = .ok (.lcmp, 1) := by decide +kernel
theorem dX8_in_10 : decode cX8_in 10 = .ok (.ifCond .gt 7, 3) := by decide +kernel
theorem dX8_in_13 : decode cX8_in 13 = .ok (.iconst 1, 1) := by decide +kernel
theorem dX8_in_14 : decode cX8_in 14 = .ok (.goto 4, 3) := by decide +kernel
theorem dX8_in_17 : decode cX8_in 17 = .ok (.iconst 0, 1) := by decide +kernel
theorem dX8_in_18 : decode cX8_in 18 = .ok (.ireturn, 1) := by decide +kernel
theorem dX8_has_0 : decode cX8_has 0 = .ok (.iload_n 0, 1) := by decide +kernel
theorem dX8_has_1 : decode cX8_has 1 = .ok (.iload_n 1, 1) := by decide +kernel
theorem dX8_has_2 : decode cX8_has 2 = .ok (.ishr, 1) := by decide +kernel
theorem dX8_has_3 : decode cX8_has 3 = .ok (.iconst 1, 1) := by decide +kernel
theorem dX8_has_4 : decode cX8_has 4 = .ok (.iand, 1) := by decide +kernel
theorem dX8_has_5 : decode cX8_has 5 = .ok (.iconst 1, 1) := by decide +kernel
theorem dX8_has_6 : decode cX8_has 6 = .ok (.if_icmp .ne 7, 3) := by decide +kernel
theorem dX8_has_9 : decode cX8_has 9 = .ok (.iconst 1, 1) := by decide +kernel
theorem dX8_has_10 : decode cX8_has 10 = .ok (.goto 4, 3) := by decide +kernel
theorem dX8_has_13 : decode cX8_has 13 = .ok (.iconst 0, 1) := by decide +kernel
theorem dX8_has_14 : decode cX8_has 14 = .ok (.ireturn, 1) := by decide +kernel
theorem dX8_many_0 : decode cX8_many 0 = .ok (.iconst 0, 1) := by decide +kernel
theorem dX8_many_1 : decode cX8_many 1 = .ok (.istore_n 1, 1) := by decide +kernel
theorem dX8_many_2 : decode cX8_many 2 = .ok (.iconst 0, 1) := by decide +kernel
theorem dX8_many_3 : decode cX8_many 3 = .ok (.istore_n 2, 1) := by decide +kernel
theorem dX8_many_4 : decode cX8_many 4 = .ok (.iload_n 2, 1) := by decide +kernel
theorem dX8_many_5 : decode cX8_many 5 = .ok (.bipush 8, 2) := by decide +kernel
theorem dX8_many_7 : decode cX8_many 7 = .ok (.if_icmp .ge 17, 3) := by decide +kernel
theorem dX8_many_10 : decode cX8_many 10 = .ok (.iload_n 1, 1) := by decide +kernel
theorem dX8_many_11 : decode cX8_many 11 = .ok (.iload_n 0, 1) := by decide +kernel
theorem dX8_many_12 : decode cX8_many 12 = .ok (.iload_n 2, 1) := by decide +kernel
theorem dX8_many_13 : decode cX8_many 13 = .ok (.ishr, 1) := by decide +kernel
theorem dX8_many_14 : decode cX8_many 14 = .ok (.iconst 1, 1) := by decide +kernel
theorem dX8_many_15 : decode cX8_many 15 = .ok (.iand, 1) := by decide +kernel
theorem dX8_many_16 : decode cX8_many 16 = .ok (.iadd, 1) := by decide +kernel
theorem dX8_many_17 : decode cX8_many 17 = .ok (.istore_n 1, 1) := by decide +kernel
theorem dX8_many_18 : decode cX8_many 18 = .ok (.iinc 2 1, 3) := by decide +kernel
theorem dX8_many_21 : decode cX8_many 21 = .ok (.goto (-17), 3) := by decide +kernel
theorem dX8_many_24 : decode cX8_many 24 = .ok (.iload_n 1, 1) := by decide +kernel
theorem dX8_many_25 : decode cX8_many 25 = .ok (.ireturn, 1) := by decide +kernel
theorem dX8_noOne_0 : decode cX8_noOne 0 = .ok (.iload_n 1, 1) := by decide +kernel
theorem dX8_noOne_1 : decode cX8_noOne 1 = .ok (.i2l, 1) := by decide +kernel
theorem dX8_noOne_2 : decode cX8_noOne 2 = .ok (.lconst 0, 1) := by decide +kernel
theorem dX8_noOne_3 : decode cX8_noOne 3 = .ok (.aload_n 0, 1) := by decide +kernel
theorem dX8_noOne_4 : decode cX8_noOne 4 = .ok (.getfield 72, 3) := by decide +kernel
theorem dX8_noOne_7 : decode cX8_noOne 7 = .ok (.iconst 1, 1) := by decide +kernel
theorem dX8_noOne_8 : decode cX8_noOne 8 = .ok (.isub, 1) := by decide +kernel
theorem dX8_noOne_9 : decode cX8_noOne 9 = .ok (.i2l, 1) := by decide +kernel
theorem dX8_noOne_10 : decode cX8_noOne 10 = .ok (.invokestatic 75, 3) := by decide +kernel
theorem dX8_noOne_13 : decode cX8_noOne 13 = .ok (.ifCond .ne 7, 3) := by decide +kernel
theorem dX8_noOne_16 : decode cX8_noOne 16 = .ok (.iconst 1, 1) := by decide +kernel
theorem dX8_noOne_17 : decode cX8_noOne 17 = .ok (.goto 4, 3) := by decide +kernel
theorem dX8_noOne_20 : decode cX8_noOne 20 = .ok (.iconst 0, 1) := by decide +kernel
theorem dX8_noOne_21 : decode cX8_noOne 21 = .ok (.ireturn, 1) := by decide +kernel
theorem dX8_noTown_0 : decode cX8_noTown 0 = .ok (.iload_n 1, 1) := by decide +kernel
theorem dX8_noTown_1 : decode cX8_noTown 1 = .ok (.i2l, 1) := by decide +kernel
theorem dX8_noTown_2 : decode cX8_noTown 2 = .ok (.lconst 0, 1) := by decide +kernel
theorem dX8_noTown_3 : decode cX8_noTown 3 = .ok (.aload_n 0, 1) := by decide +kernel
theorem dX8_noTown_4 : decode cX8_noTown 4 = .ok (.getfield 13, 3) := by decide +kernel
theorem dX8_noTown_7 : decode cX8_noTown 7 = .ok (.iconst 1, 1) := by decide +kernel
theorem dX8_noTown_8 : decode cX8_noTown 8 = .ok (.isub, 1) := by decide +kernel
theorem dX8_noTown_9 : decode cX8_noTown 9 = .ok (.i2l, 1) := by decide +kernel
theorem dX8_noTown_10 : decode cX8_noTown 10 = .ok (.invokestatic 75, 3) := by decide +kernel
theorem dX8_noTown_13 : decode cX8_noTown 13 = .ok (.ifCond .ne 7, 3) := by decide +kernel
theorem dX8_noTown_16 : decode cX8_noTown 16 = .ok (.iconst 1, 1) := by decide +kernel
theorem dX8_noTown_17 : decode cX8_noTown 17 = .ok (.goto 4, 3) := by decide +kernel
theorem dX8_noTown_20 : decode cX8_noTown 20 = .ok (.iconst 0, 1) := by decide +kernel
theorem dX8_noTown_21 : decode cX8_noTown 21 = .ok (.ireturn, 1) := by decide +kernel
theorem dX8_write_0 : decode cX8_write 0 = .ok (.aload_n 0, 1) := by decide +kernel
theorem dX8_write_1 : decode cX8_write 1 = .ok (.iconst 0, 1) := by decide +kernel
theorem dX8_write_2 : decode cX8_write 2 = .ok (.putfield 69, 3) := by decide +kernel
theorem dX8_write_5 : decode cX8_write 5 = .ok (.iload_n 1, 1) := by decide +kernel
theorem dX8_write_6 : decode cX8_write 6 = .ok (.i2l, 1) := by decide +kernel
theorem dX8_write_7 : decode cX8_write 7 = .ok (.lconst 1, 1) := by decide +kernel
theorem dX8_write_8 : decode cX8_write 8 = .ok (.ldc2_w 79, 3) := by decide +kernel
theorem dX8_write_11 : decode cX8_write 11 = .ok (.invokestatic 75, 3) := by decide +kernel
theorem dX8_write_14 : decode cX8_write 14 = .ok (.ifCond .ne 6, 3) := by decide +kernel
theorem dX8_write_17 : decode cX8_write 17 = .ok (.bipush (-2), 2) := by decide +kernel
theorem dX8_write_19 : decode cX8_write 19 = .ok (.ireturn, 1) := by decide +kernel
theorem dX8_write_20 : decode cX8_write 20 = .ok (.aload_n 0, 1) := by decide +kernel
theorem dX8_write_21 : decode cX8_write 21 = .ok (.getfield 81, 3) := by decide +kernel
theorem dX8_write_24 : decode cX8_write 24 = .ok (.iload_n 1, 1) := by decide +kernel
theorem dX8_write_25 : decode cX8_write 25 = .ok (.iadd, 1) := by decide +kernel
theorem dX8_write_26 : decode cX8_write 26 = .ok (.bipush 80, 2) := by decide +kernel
theorem dX8_write_28 : decode cX8_write 28 = .ok (.if_icmp .le 6, 3) := by decide +kernel
theorem dX8_write_31 : decode cX8_write 31 = .ok (.bipush (-4), 2) := by decide +kernel
theorem dX8_write_33 : decode cX8_write 33 = .ok (.ireturn, 1) := by decide +kernel
theorem dX8_write_34 : decode cX8_write 34 = .ok (.iload_n 1, 1) := by decide +kernel
theorem dX8_write_35 : decode cX8_write 35 = .ok (.iconst 1, 1) := by decide +kernel
theorem dX8_write_36 : decode cX8_write 36 = .ok (.isub, 1) := by decide +kernel
theorem dX8_write_37 : decode cX8_write 37 = .ok (.istore 4, 2) := by decide +kernel
theorem dX8_write_39 : decode cX8_write 39 = .ok (.iload 4, 2) := by decide +kernel
theorem dX8_write_41 : decode cX8_write 41 = .ok (.ifCond .lt 40, 3) := by decide +kernel
theorem dX8_write_44 : decode cX8_write 44 = .ok (.aload_n 0, 1) := by decide +kernel
theorem dX8_write_45 : decode cX8_write 45 = .ok (.getfield 7, 3) := by decide +kernel
theorem dX8_write_48 : decode cX8_write 48 = .ok (.aload_n 0, 1) := by decide +kernel
theorem dX8_write_49 : decode cX8_write 49 = .ok (.getfield 81, 3) := by decide +kernel
theorem dX8_write_52 : decode cX8_write 52 = .ok (.lload_n 2, 1) := by decide +kernel
theorem dX8_write_53 : decode cX8_write 53 = .ok (.bipush 8, 2) := by decide +kernel
theorem dX8_write_55 : decode cX8_write 55 = .ok (.iload 4, 2) := by decide +kernel
theorem dX8_write_57 : decode cX8_write 57 = .ok (.imul, 1) := by decide +kernel
theorem dX8_write_58 : decode cX8_write 58 = .ok (.lshr, 1) := by decide +kernel
theorem dX8_write_59 : decode cX8_write 59 = .ok (.l2i, 1) := by decide +kernel
theorem dX8_write_60 : decode cX8_write 60 = .ok (.sipush 255, 3) := by decide +kernel
theorem dX8_write_63 : decode cX8_write 63 = .ok (.iand, 1) := by decide +kernel
theorem dX8_write_64 : decode cX8_write 64 = .ok (.iastore, 1) := by decide +kernel
theorem dX8_write_65 : decode cX8_write 65 = .ok (.aload_n 0, 1) := by decide +kernel
theorem dX8_write_66 : decode cX8_write 66 = .ok (.dup, 1) := by decide +kernel
theorem dX8_write_67 : decode cX8_write 67 = .ok (.getfield 81, 3) := by decide +kernel
theorem dX8_write_70 : decode cX8_write 70 = .ok (.iconst 1, 1) := by decide +kernel
theorem dX8_write_71 : decode cX8_write 71 = .ok (.iadd, 1) := by decide +kernel
theorem dX8_write_72 : decode cX8_write 72 = .ok (.putfield 81, 3) := by decide +kernel
theorem dX8_write_75 : decode cX8_write 75 = .ok (.iinc 4 (-1), 3) := by decide +kernel
theorem dX8_write_78 : decode cX8_write 78 = .ok (.goto (-39), 3) := by decide +kernel
theorem dX8_write_81 : decode cX8_write 81 = .ok (.aload_n 0, 1) := by decide +kernel
theorem dX8_write_82 : decode cX8_write 82 = .ok (.getfield 81, 3) := by decide +kernel
theorem dX8_write_85 : decode cX8_write 85 = .ok (.ireturn, 1) := by decide +kernel
theorem dX8_wipe_0 : decode cX8_wipe 0 = .ok (.aload_n 0, 1) := by decide +kernel
theorem dX8_wipe_1 : decode cX8_wipe 1 = .ok (.iconst 0, 1) := by decide +kernel
theorem dX8_wipe_2 : decode cX8_wipe 2 = .ok (.putfield 69, 3) := by decide +kernel
theorem dX8_wipe_5 : decode cX8_wipe 5 = .ok (.aload_n 0, 1) := by decide +kernel
theorem dX8_wipe_6 : decode cX8_wipe 6 = .ok (.getfield 81, 3) := by decide +kernel
theorem dX8_wipe_9 : decode cX8_wipe 9 = .ok (.istore_n 1, 1) := by decide +kernel
theorem dX8_wipe_10 : decode cX8_wipe 10 = .ok (.aload_n 0, 1) := by decide +kernel
theorem dX8_wipe_11 : decode cX8_wipe 11 = .ok (.iconst 0, 1) := by decide +kernel
theorem dX8_wipe_12 : decode cX8_wipe 12 = .ok (.putfield 81, 3) := by decide +kernel
theorem dX8_wipe_15 : decode cX8_wipe 15 = .ok (.iload_n 1, 1) := by decide +kernel
theorem dX8_wipe_16 : decode cX8_wipe 16 = .ok (.ireturn, 1) := by decide +kernel
theorem dX8_figure_0 : decode cX8_figure 0 = .ok (.aload_n 0, 1) := by decide +kernel
theorem dX8_figure_1 : decode cX8_figure 1 = .ok (.getfield 84, 3) := by decide +kernel
theorem dX8_figure_4 : decode cX8_figure 4 = .ok (.aload_n 0, 1) := by decide +kernel
theorem dX8_figure_5 : decode cX8_figure 5 = .ok (.getfield 81, 3) := by decide +kernel
theorem dX8_figure_8 : decode cX8_figure 8 = .ok (.if_icmp .eq 25, 3) := by decide +kernel
theorem dX8_figure_11 : decode cX8_figure 11 = .ok (.aload_n 0, 1) := by decide +kernel
theorem dX8_figure_12 : decode cX8_figure 12 = .ok (.getfield 7, 3) := by decide +kernel
theorem dX8_figure_15 : decode cX8_figure 15 = .ok (.aload_n 0, 1) := by decide +kernel
theorem dX8_figure_16 : decode cX8_figure 16 = .ok (.getfield 84, 3) := by decide +kernel
theorem dX8_figure_19 : decode cX8_figure 19 = .ok (.iaload, 1) := by decide +kernel
theorem dX8_figure_20 : decode cX8_figure 20 = .ok (.iload_n 1, 1) := by decide +kernel
theorem dX8_figure_21 : decode cX8_figure 21 = .ok (.isub, 1) := by decide +kernel
theorem dX8_figure_22 : decode cX8_figure 22 = .ok (.i2l, 1) := by decide +kernel
theorem dX8_figure_23 : decode cX8_figure 23 = .ok (.iload_n 2, 1) := by decide +kernel
theorem dX8_figure_24 : decode cX8_figure 24 = .ok (.i2l, 1) := by decide +kernel
theorem dX8_figure_25 : decode cX8_figure 25 = .ok (.iload_n 3, 1) := by decide +kernel
theorem dX8_figure_26 : decode cX8_figure 26 = .ok (.i2l, 1) := by decide +kernel
theorem dX8_figure_27 : decode cX8_figure 27 = .ok (.invokestatic 75, 3) := by decide +kernel
theorem dX8_figure_30 : decode cX8_figure 30 = .ok (.ifCond .ne 6, 3) := by decide +kernel
theorem dX8_figure_33 : decode cX8_figure 33 = .ok (.bipush (-9), 2) := by decide +kernel
theorem dX8_figure_35 : decode cX8_figure 35 = .ok (.ireturn, 1) := by decide +kernel
theorem dX8_figure_36 : decode cX8_figure 36 = .ok (.aload_n 0, 1) := by decide +kernel
theorem dX8_figure_37 : decode cX8_figure 37 = .ok (.dup, 1) := by decide +kernel
theorem dX8_figure_38 : decode cX8_figure 38 = .ok (.getfield 84, 3) := by decide +kernel
theorem dX8_figure_41 : decode cX8_figure 41 = .ok (.iconst 1, 1) := by decide +kernel
theorem dX8_figure_42 : decode cX8_figure 42 = .ok (.iadd, 1) := by decide +kernel
theorem dX8_figure_43 : decode cX8_figure 43 = .ok (.putfield 84, 3) := by decide +kernel
theorem dX8_figure_46 : decode cX8_figure 46 = .ok (.aload_n 0, 1) := by decide +kernel
theorem dX8_figure_47 : decode cX8_figure 47 = .ok (.getfield 7, 3) := by decide +kernel
theorem dX8_figure_50 : decode cX8_figure 50 = .ok (.aload_n 0, 1) := by decide +kernel
theorem dX8_figure_51 : decode cX8_figure 51 = .ok (.getfield 84, 3) := by decide +kernel
theorem dX8_figure_54 : decode cX8_figure 54 = .ok (.iconst 1, 1) := by decide +kernel
theorem dX8_figure_55 : decode cX8_figure 55 = .ok (.isub, 1) := by decide +kernel
theorem dX8_figure_56 : decode cX8_figure 56 = .ok (.iaload, 1) := by decide +kernel
theorem dX8_figure_57 : decode cX8_figure 57 = .ok (.iload_n 1, 1) := by decide +kernel
theorem dX8_figure_58 : decode cX8_figure 58 = .ok (.isub, 1) := by decide +kernel
theorem dX8_figure_59 : decode cX8_figure 59 = .ok (.ireturn, 1) := by decide +kernel
theorem dX8_readPerson_0 : decode cX8_readPerson 0 = .ok (.aload_n 0, 1) := by decide +kernel
theorem dX8_readPerson_1 : decode cX8_readPerson 1 = .ok (.bipush 48, 2) := by decide +kernel
theorem dX8_readPerson_3 : decode cX8_readPerson 3 = .ok (.iconst 0, 1) := by decide +kernel
theorem dX8_readPerson_4 : decode cX8_readPerson 4 = .ok (.aload_n 0, 1) := by decide +kernel
theorem dX8_readPerson_5 : decode cX8_readPerson 5 = .ok (.getfield 87, 3) := by decide +kernel
theorem dX8_readPerson_8 : decode cX8_readPerson 8 = .ok (.iconst 1, 1) := by decide +kernel
theorem dX8_readPerson_9 : decode cX8_readPerson 9 = .ok (.isub, 1) := by decide +kernel
theorem dX8_readPerson_10 : decode cX8_readPerson 10 = .ok (.invokevirtual 90, 3) := by decide +kernel
theorem dX8_readPerson_13 : decode cX8_readPerson 13 = .ok (.istore_n 1, 1) := by decide +kernel
theorem dX8_readPerson_14 : decode cX8_readPerson 14 = .ok (.iload_n 1, 1) := by decide +kernel
theorem dX8_readPerson_15 : decode cX8_readPerson 15 = .ok (.bipush (-9), 2) := by decide +kernel
theorem dX8_readPerson_17 : decode cX8_readPerson 17 = .ok (.if_icmp .ne 8, 3) := by decide +kernel
theorem dX8_readPerson_20 : decode cX8_readPerson 20 = .ok (.bipush (-9), 2) := by decide +kernel
theorem dX8_readPerson_22 : decode cX8_readPerson 22 = .ok (.goto 11, 3) := by decide +kernel
theorem dX8_readPerson_25 : decode cX8_readPerson 25 = .ok (.aload_n 0, 1) := by decide +kernel
theorem dX8_readPerson_26 : decode cX8_readPerson 26 = .ok (.bipush 97, 2) := by decide +kernel
theorem dX8_readPerson_28 : decode cX8_readPerson 28 = .ok (.iconst 0, 1) := by decide +kernel
theorem dX8_readPerson_29 : decode cX8_readPerson 29 = .ok (.iconst 5, 1) := by decide +kernel
theorem dX8_readPerson_30 : decode cX8_readPerson 30 = .ok (.invokevirtual 90, 3) := by decide +kernel
theorem dX8_readPerson_33 : decode cX8_readPerson 33 = .ok (.istore_n 2, 1) := by decide +kernel
theorem dX8_readPerson_34 : decode cX8_readPerson 34 = .ok (.iload_n 2, 1) := by decide +kernel
theorem dX8_readPerson_35 : decode cX8_readPerson 35 = .ok (.bipush (-9), 2) := by decide +kernel
theorem dX8_readPerson_37 : decode cX8_readPerson 37 = .ok (.if_icmp .ne 8, 3) := by decide +kernel
theorem dX8_readPerson_40 : decode cX8_readPerson 40 = .ok (.bipush (-9), 2) := by decide +kernel
theorem dX8_readPerson_42 : decode cX8_readPerson 42 = .ok (.goto 12, 3) := by decide +kernel
theorem dX8_readPerson_45 : decode cX8_readPerson 45 = .ok (.aload_n 0, 1) := by decide +kernel
theorem dX8_readPerson_46 : decode cX8_readPerson 46 = .ok (.bipush 48, 2) := by decide +kernel
theorem dX8_readPerson_48 : decode cX8_readPerson 48 = .ok (.iconst 0, 1) := by decide +kernel
theorem dX8_readPerson_49 : decode cX8_readPerson 49 = .ok (.bipush 9, 2) := by decide +kernel
theorem dX8_readPerson_51 : decode cX8_readPerson 51 = .ok (.invokevirtual 90, 3) := by decide +kernel
theorem dX8_readPerson_54 : decode cX8_readPerson 54 = .ok (.istore_n 3, 1) := by decide +kernel
theorem dX8_readPerson_55 : decode cX8_readPerson 55 = .ok (.iload_n 3, 1) := by decide +kernel
theorem dX8_readPerson_56 : decode cX8_readPerson 56 = .ok (.bipush (-9), 2) := by decide +kernel
theorem dX8_readPerson_58 : decode cX8_readPerson 58 = .ok (.if_icmp .ne 5, 3) := by decide +kernel
theorem dX8_readPerson_61 : decode cX8_readPerson 61 = .ok (.iconst 0, 1) := by decide +kernel
theorem dX8_readPerson_62 : decode cX8_readPerson 62 = .ok (.ireturn, 1) := by decide +kernel
theorem dX8_readPerson_63 : decode cX8_readPerson 63 = .ok (.aload_n 0, 1) := by decide +kernel
theorem dX8_readPerson_64 : decode cX8_readPerson 64 = .ok (.getfield 41, 3) := by decide +kernel
theorem dX8_readPerson_67 : decode cX8_readPerson 67 = .ok (.aload_n 0, 1) := by decide +kernel
theorem dX8_readPerson_68 : decode cX8_readPerson 68 = .ok (.getfield 94, 3) := by decide +kernel
theorem dX8_readPerson_71 : decode cX8_readPerson 71 = .ok (.iload_n 1, 1) := by decide +kernel
theorem dX8_readPerson_72 : decode cX8_readPerson 72 = .ok (.iastore, 1) := by decide +kernel
theorem dX8_readPerson_73 : decode cX8_readPerson 73 = .ok (.aload_n 0, 1) := by decide +kernel
theorem dX8_readPerson_74 : decode cX8_readPerson 74 = .ok (.getfield 44, 3) := by decide +kernel
theorem dX8_readPerson_77 : decode cX8_readPerson 77 = .ok (.aload_n 0, 1) := by decide +kernel
theorem dX8_readPerson_78 : decode cX8_readPerson 78 = .ok (.getfield 94, 3) := by decide +kernel
theorem dX8_readPerson_81 : decode cX8_readPerson 81 = .ok (.iload_n 2, 1) := by decide +kernel
theorem dX8_readPerson_82 : decode cX8_readPerson 82 = .ok (.iastore, 1) := by decide +kernel
theorem dX8_readPerson_83 : decode cX8_readPerson 83 = .ok (.aload_n 0, 1) := by decide +kernel
theorem dX8_readPerson_84 : decode cX8_readPerson 84 = .ok (.getfield 47, 3) := by decide +kernel
theorem dX8_readPerson_87 : decode cX8_readPerson 87 = .ok (.aload_n 0, 1) := by decide +kernel
theorem dX8_readPerson_88 : decode cX8_readPerson 88 = .ok (.getfield 94, 3) := by decide +kernel
theorem dX8_readPerson_91 : decode cX8_readPerson 91 = .ok (.iload_n 3, 1) := by decide +kernel
theorem dX8_readPerson_92 : decode cX8_readPerson 92 = .ok (.iastore, 1) := by decide +kernel
theorem dX8_readPerson_93 : decode cX8_readPerson 93 = .ok (.aload_n 0, 1) := by decide +kernel
theorem dX8_readPerson_94 : decode cX8_readPerson 94 = .ok (.getfield 50, 3) := by decide +kernel
theorem dX8_readPerson_97 : decode cX8_readPerson 97 = .ok (.aload_n 0, 1) := by decide +kernel
theorem dX8_readPerson_98 : decode cX8_readPerson 98 = .ok (.getfield 94, 3) := by decide +kernel
theorem dX8_readPerson_101 : decode cX8_readPerson 101 = .ok (.iconst 0, 1) := by decide +kernel
theorem dX8_readPerson_102 : decode cX8_readPerson 102 = .ok (.iastore, 1) := by decide +kernel
theorem dX8_readPerson_103 : decode cX8_readPerson 103 = .ok (.aload_n 0, 1) := by decide +kernel
theorem dX8_readPerson_104 : decode cX8_readPerson 104 = .ok (.dup, 1) := by decide +kernel
theorem dX8_readPerson_105 : decode cX8_readPerson 105 = .ok (.getfield 94, 3) := by decide +kernel
theorem dX8_readPerson_108 : decode cX8_readPerson 108 = .ok (.iconst 1, 1) := by decide +kernel
theorem dX8_readPerson_109 : decode cX8_readPerson 109 = .ok (.iadd, 1) := by decide +kernel
theorem dX8_readPerson_110 : decode cX8_readPerson 110 = .ok (.putfield 94, 3) := by decide +kernel
theorem dX8_readPerson_113 : decode cX8_readPerson 113 = .ok (.iconst 1, 1) := by decide +kernel
theorem dX8_readPerson_114 : decode cX8_readPerson 114 = .ok (.ireturn, 1) := by decide +kernel
theorem dX8_left_0 : decode cX8_left 0 = .ok (.iconst 1, 1) := by decide +kernel
theorem dX8_left_1 : decode cX8_left 1 = .ok (.aload_n 0, 1) := by decide +kernel
theorem dX8_left_2 : decode cX8_left 2 = .ok (.getfield 94, 3) := by decide +kernel
theorem dX8_left_5 : decode cX8_left 5 = .ok (.ishl, 1) := by decide +kernel
theorem dX8_left_6 : decode cX8_left 6 = .ok (.iconst 1, 1) := by decide +kernel
theorem dX8_left_7 : decode cX8_left 7 = .ok (.isub, 1) := by decide +kernel
theorem dX8_left_8 : decode cX8_left 8 = .ok (.iconst 1, 1) := by decide +kernel
theorem dX8_left_9 : decode cX8_left 9 = .ok (.iload_n 1, 1) := by decide +kernel
theorem dX8_left_10 : decode cX8_left 10 = .ok (.ishl, 1) := by decide +kernel
theorem dX8_left_11 : decode cX8_left 11 = .ok (.iconst (-1), 1) := by decide +kernel
theorem dX8_left_12 : decode cX8_left 12 = .ok (.ixor, 1) := by decide +kernel
theorem dX8_left_13 : decode cX8_left 13 = .ok (.iand, 1) := by decide +kernel
theorem dX8_left_14 : decode cX8_left 14 = .ok (.aload_n 0, 1) := by decide +kernel
theorem dX8_left_15 : decode cX8_left 15 = .ok (.getfield 50, 3) := by decide +kernel
theorem dX8_left_18 : decode cX8_left 18 = .ok (.iload_n 1, 1) := by decide +kernel
theorem dX8_left_19 : decode cX8_left 19 = .ok (.iaload, 1) := by decide +kernel
theorem dX8_left_20 : decode cX8_left 20 = .ok (.iconst (-1), 1) := by decide +kernel
theorem dX8_left_21 : decode cX8_left 21 = .ok (.ixor, 1) := by decide +kernel
theorem dX8_left_22 : decode cX8_left 22 = .ok (.iand, 1) := by decide +kernel
theorem dX8_left_23 : decode cX8_left 23 = .ok (.ireturn, 1) := by decide +kernel
theorem dX8_hasLeft_0 : decode cX8_hasLeft 0 = .ok (.iconst 0, 1) := by decide +kernel
theorem dX8_hasLeft_1 : decode cX8_hasLeft 1 = .ok (.istore_n 1, 1) := by decide +kernel
theorem dX8_hasLeft_2 : decode cX8_hasLeft 2 = .ok (.iconst 0, 1) := by decide +kernel
theorem dX8_hasLeft_3 : decode cX8_hasLeft 3 = .ok (.istore_n 2, 1) := by decide +kernel
theorem dX8_hasLeft_4 : decode cX8_hasLeft 4 = .ok (.iload_n 2, 1) := by decide +kernel
theorem dX8_hasLeft_5 : decode cX8_hasLeft 5 = .ok (.aload_n 0, 1) := by decide +kernel
theorem dX8_hasLeft_6 : decode cX8_hasLeft 6 = .ok (.getfield 94, 3) := by decide +kernel
theorem dX8_hasLeft_9 : decode cX8_hasLeft 9 = .ok (.if_icmp .ge 27, 3) := by decide +kernel
theorem dX8_hasLeft_12 : decode cX8_hasLeft 12 = .ok (.iload_n 1, 1) := by decide +kernel
theorem dX8_hasLeft_13 : decode cX8_hasLeft 13 = .ok (.ifCond .ne 11, 3) := by decide +kernel
theorem dX8_hasLeft_16 : decode cX8_hasLeft 16 = .ok (.aload_n 0, 1) := by decide +kernel
theorem dX8_hasLeft_17 : decode cX8_hasLeft 17 = .ok (.iload_n 2, 1) := by decide +kernel
theorem dX8_hasLeft_18 : decode cX8_hasLeft 18 = .ok (.invokevirtual 97, 3) := by decide +kernel
theorem dX8_hasLeft_21 : decode cX8_hasLeft 21 = .ok (.ifCond .eq 7, 3) := by decide +kernel
theorem dX8_hasLeft_24 : decode cX8_hasLeft 24 = .ok (.iconst 1, 1) := by decide +kernel
theorem dX8_hasLeft_25 : decode cX8_hasLeft 25 = .ok (.goto 4, 3) := by decide +kernel
theorem dX8_hasLeft_28 : decode cX8_hasLeft 28 = .ok (.iconst 0, 1) := by decide +kernel
theorem dX8_hasLeft_29 : decode cX8_hasLeft 29 = .ok (.istore_n 1, 1) := by decide +kernel
theorem dX8_hasLeft_30 : decode cX8_hasLeft 30 = .ok (.iinc 2 1, 3) := by decide +kernel
theorem dX8_hasLeft_33 : decode cX8_hasLeft 33 = .ok (.goto (-29), 3) := by decide +kernel
theorem dX8_hasLeft_36 : decode cX8_hasLeft 36 = .ok (.iload_n 1, 1) := by decide +kernel
theorem dX8_hasLeft_37 : decode cX8_hasLeft 37 = .ok (.ireturn, 1) := by decide +kernel
theorem dX8_readAsk_0 : decode cX8_readAsk 0 = .ok (.aload_n 0, 1) := by decide +kernel
theorem dX8_readAsk_1 : decode cX8_readAsk 1 = .ok (.getfield 84, 3) := by decide +kernel
theorem dX8_readAsk_4 : decode cX8_readAsk 4 = .ok (.aload_n 0, 1) := by decide +kernel
theorem dX8_readAsk_5 : decode cX8_readAsk 5 = .ok (.getfield 81, 3) := by decide +kernel
theorem dX8_readAsk_8 : decode cX8_readAsk 8 = .ok (.if_icmp .ge 18, 3) := by decide +kernel
theorem dX8_readAsk_11 : decode cX8_readAsk 11 = .ok (.aload_n 0, 1) := by decide +kernel
theorem dX8_readAsk_12 : decode cX8_readAsk 12 = .ok (.getfield 7, 3) := by decide +kernel
theorem dX8_readAsk_15 : decode cX8_readAsk 15 = .ok (.aload_n 0, 1) := by decide +kernel
theorem dX8_readAsk_16 : decode cX8_readAsk 16 = .ok (.getfield 84, 3) := by decide +kernel
theorem dX8_readAsk_19 : decode cX8_readAsk 19 = .ok (.iaload, 1) := by decide +kernel
theorem dX8_readAsk_20 : decode cX8_readAsk 20 = .ok (.bipush 48, 2) := by decide +kernel
theorem dX8_readAsk_22 : decode cX8_readAsk 22 = .ok (.isub, 1) := by decide +kernel
theorem dX8_readAsk_23 : decode cX8_readAsk 23 = .ok (.goto 5, 3) := by decide +kernel
theorem dX8_readAsk_26 : decode cX8_readAsk 26 = .ok (.bipush (-9), 2) := by decide +kernel
theorem dX8_readAsk_28 : decode cX8_readAsk 28 = .ok (.istore_n 1, 1) := by decide +kernel
theorem dX8_readAsk_29 : decode cX8_readAsk 29 = .ok (.iload_n 1, 1) := by decide +kernel
theorem dX8_readAsk_30 : decode cX8_readAsk 30 = .ok (.i2l, 1) := by decide +kernel
theorem dX8_readAsk_31 : decode cX8_readAsk 31 = .ok (.lconst 0, 1) := by decide +kernel
theorem dX8_readAsk_32 : decode cX8_readAsk 32 = .ok (.aload_n 0, 1) := by decide +kernel
theorem dX8_readAsk_33 : decode cX8_readAsk 33 = .ok (.getfield 94, 3) := by decide +kernel
theorem dX8_readAsk_36 : decode cX8_readAsk 36 = .ok (.iconst 1, 1) := by decide +kernel
theorem dX8_readAsk_37 : decode cX8_readAsk 37 = .ok (.isub, 1) := by decide +kernel
theorem dX8_readAsk_38 : decode cX8_readAsk 38 = .ok (.i2l, 1) := by decide +kernel
theorem dX8_readAsk_39 : decode cX8_readAsk 39 = .ok (.invokestatic 75, 3) := by decide +kernel
theorem dX8_readAsk_42 : decode cX8_readAsk 42 = .ok (.ifCond .eq 11, 3) := by decide +kernel
theorem dX8_readAsk_45 : decode cX8_readAsk 45 = .ok (.aload_n 0, 1) := by decide +kernel
theorem dX8_readAsk_46 : decode cX8_readAsk 46 = .ok (.iload_n 1, 1) := by decide +kernel
theorem dX8_readAsk_47 : decode cX8_readAsk 47 = .ok (.invokevirtual 97, 3) := by decide +kernel
theorem dX8_readAsk_50 : decode cX8_readAsk 50 = .ok (.ifCond .ne 5, 3) := by decide +kernel
theorem dX8_readAsk_53 : decode cX8_readAsk 53 = .ok (.iconst 0, 1) := by decide +kernel
theorem dX8_readAsk_54 : decode cX8_readAsk 54 = .ok (.ireturn, 1) := by decide +kernel
theorem dX8_readAsk_55 : decode cX8_readAsk 55 = .ok (.aload_n 0, 1) := by decide +kernel
theorem dX8_readAsk_56 : decode cX8_readAsk 56 = .ok (.dup, 1) := by decide +kernel
theorem dX8_readAsk_57 : decode cX8_readAsk 57 = .ok (.getfield 84, 3) := by decide +kernel
theorem dX8_readAsk_60 : decode cX8_readAsk 60 = .ok (.iconst 1, 1) := by decide +kernel
theorem dX8_readAsk_61 : decode cX8_readAsk 61 = .ok (.iadd, 1) := by decide +kernel
theorem dX8_readAsk_62 : decode cX8_readAsk 62 = .ok (.putfield 84, 3) := by decide +kernel
theorem dX8_readAsk_65 : decode cX8_readAsk 65 = .ok (.aload_n 0, 1) := by decide +kernel
theorem dX8_readAsk_66 : decode cX8_readAsk 66 = .ok (.getfield 84, 3) := by decide +kernel
theorem dX8_readAsk_69 : decode cX8_readAsk 69 = .ok (.aload_n 0, 1) := by decide +kernel
theorem dX8_readAsk_70 : decode cX8_readAsk 70 = .ok (.getfield 81, 3) := by decide +kernel
theorem dX8_readAsk_73 : decode cX8_readAsk 73 = .ok (.if_icmp .ge 18, 3) := by decide +kernel
theorem dX8_readAsk_76 : decode cX8_readAsk 76 = .ok (.aload_n 0, 1) := by decide +kernel
theorem dX8_readAsk_77 : decode cX8_readAsk 77 = .ok (.getfield 7, 3) := by decide +kernel
theorem dX8_readAsk_80 : decode cX8_readAsk 80 = .ok (.aload_n 0, 1) := by decide +kernel
theorem dX8_readAsk_81 : decode cX8_readAsk 81 = .ok (.getfield 84, 3) := by decide +kernel
theorem dX8_readAsk_84 : decode cX8_readAsk 84 = .ok (.iaload, 1) := by decide +kernel
theorem dX8_readAsk_85 : decode cX8_readAsk 85 = .ok (.bipush 48, 2) := by decide +kernel
theorem dX8_readAsk_87 : decode cX8_readAsk 87 = .ok (.isub, 1) := by decide +kernel
theorem dX8_readAsk_88 : decode cX8_readAsk 88 = .ok (.goto 5, 3) := by decide +kernel
theorem dX8_readAsk_91 : decode cX8_readAsk 91 = .ok (.bipush (-9), 2) := by decide +kernel
theorem dX8_readAsk_93 : decode cX8_readAsk 93 = .ok (.istore_n 2, 1) := by decide +kernel
theorem dX8_readAsk_94 : decode cX8_readAsk 94 = .ok (.iload_n 2, 1) := by decide +kernel
theorem dX8_readAsk_95 : decode cX8_readAsk 95 = .ok (.i2l, 1) := by decide +kernel
theorem dX8_readAsk_96 : decode cX8_readAsk 96 = .ok (.lconst 0, 1) := by decide +kernel
theorem dX8_readAsk_97 : decode cX8_readAsk 97 = .ok (.aload_n 0, 1) := by decide +kernel
theorem dX8_readAsk_98 : decode cX8_readAsk 98 = .ok (.getfield 94, 3) := by decide +kernel
theorem dX8_readAsk_101 : decode cX8_readAsk 101 = .ok (.iconst 1, 1) := by decide +kernel
theorem dX8_readAsk_102 : decode cX8_readAsk 102 = .ok (.isub, 1) := by decide +kernel
theorem dX8_readAsk_103 : decode cX8_readAsk 103 = .ok (.i2l, 1) := by decide +kernel
theorem dX8_readAsk_104 : decode cX8_readAsk 104 = .ok (.invokestatic 75, 3) := by decide +kernel
theorem dX8_readAsk_107 : decode cX8_readAsk 107 = .ok (.ifCond .eq 15, 3) := by decide +kernel
theorem dX8_readAsk_110 : decode cX8_readAsk 110 = .ok (.aload_n 0, 1) := by decide +kernel
theorem dX8_readAsk_111 : decode cX8_readAsk 111 = .ok (.iload_n 1, 1) := by decide +kernel
theorem dX8_readAsk_112 : decode cX8_readAsk 112 = .ok (.invokevirtual 97, 3) := by decide +kernel
theorem dX8_readAsk_115 : decode cX8_readAsk 115 = .ok (.iload_n 2, 1) := by decide +kernel
theorem dX8_readAsk_116 : decode cX8_readAsk 116 = .ok (.invokestatic 101, 3) := by decide +kernel
theorem dX8_readAsk_119 : decode cX8_readAsk 119 = .ok (.ifCond .ne 5, 3) := by decide +kernel
theorem dX8_readAsk_122 : decode cX8_readAsk 122 = .ok (.iconst 0, 1) := by decide +kernel
theorem dX8_readAsk_123 : decode cX8_readAsk 123 = .ok (.ireturn, 1) := by decide +kernel
theorem dX8_readAsk_124 : decode cX8_readAsk 124 = .ok (.aload_n 0, 1) := by decide +kernel
theorem dX8_readAsk_125 : decode cX8_readAsk 125 = .ok (.dup, 1) := by decide +kernel
theorem dX8_readAsk_126 : decode cX8_readAsk 126 = .ok (.getfield 84, 3) := by decide +kernel
theorem dX8_readAsk_129 : decode cX8_readAsk 129 = .ok (.iconst 1, 1) := by decide +kernel
theorem dX8_readAsk_130 : decode cX8_readAsk 130 = .ok (.iadd, 1) := by decide +kernel
theorem dX8_readAsk_131 : decode cX8_readAsk 131 = .ok (.putfield 84, 3) := by decide +kernel
theorem dX8_readAsk_134 : decode cX8_readAsk 134 = .ok (.aload_n 0, 1) := by decide +kernel
theorem dX8_readAsk_135 : decode cX8_readAsk 135 = .ok (.getfield 50, 3) := by decide +kernel
theorem dX8_readAsk_138 : decode cX8_readAsk 138 = .ok (.iload_n 1, 1) := by decide +kernel
theorem dX8_readAsk_139 : decode cX8_readAsk 139 = .ok (.dup2, 1) := by decide +kernel
theorem dX8_readAsk_140 : decode cX8_readAsk 140 = .ok (.iaload, 1) := by decide +kernel
theorem dX8_readAsk_141 : decode cX8_readAsk 141 = .ok (.iconst 1, 1) := by decide +kernel
theorem dX8_readAsk_142 : decode cX8_readAsk 142 = .ok (.iload_n 2, 1) := by decide +kernel
theorem dX8_readAsk_143 : decode cX8_readAsk 143 = .ok (.ishl, 1) := by decide +kernel
theorem dX8_readAsk_144 : decode cX8_readAsk 144 = .ok (.ior, 1) := by decide +kernel
theorem dX8_readAsk_145 : decode cX8_readAsk 145 = .ok (.iastore, 1) := by decide +kernel
theorem dX8_readAsk_146 : decode cX8_readAsk 146 = .ok (.aload_n 0, 1) := by decide +kernel
theorem dX8_readAsk_147 : decode cX8_readAsk 147 = .ok (.dup, 1) := by decide +kernel
theorem dX8_readAsk_148 : decode cX8_readAsk 148 = .ok (.getfield 105, 3) := by decide +kernel
theorem dX8_readAsk_151 : decode cX8_readAsk 151 = .ok (.iconst 1, 1) := by decide +kernel
theorem dX8_readAsk_152 : decode cX8_readAsk 152 = .ok (.iadd, 1) := by decide +kernel
theorem dX8_readAsk_153 : decode cX8_readAsk 153 = .ok (.putfield 105, 3) := by decide +kernel
theorem dX8_readAsk_156 : decode cX8_readAsk 156 = .ok (.iconst 1, 1) := by decide +kernel
theorem dX8_readAsk_157 : decode cX8_readAsk 157 = .ok (.ireturn, 1) := by decide +kernel
theorem dX8_readPart_0 : decode cX8_readPart 0 = .ok (.aload_n 0, 1) := by decide +kernel
theorem dX8_readPart_1 : decode cX8_readPart 1 = .ok (.getfield 7, 3) := by decide +kernel
theorem dX8_readPart_4 : decode cX8_readPart 4 = .ok (.aload_n 0, 1) := by decide +kernel
theorem dX8_readPart_5 : decode cX8_readPart 5 = .ok (.getfield 84, 3) := by decide +kernel
theorem dX8_readPart_8 : decode cX8_readPart 8 = .ok (.iaload, 1) := by decide +kernel
theorem dX8_readPart_9 : decode cX8_readPart 9 = .ok (.istore_n 1, 1) := by decide +kernel
theorem dX8_readPart_10 : decode cX8_readPart 10 = .ok (.iload_n 1, 1) := by decide +kernel
theorem dX8_readPart_11 : decode cX8_readPart 11 = .ok (.bipush 80, 2) := by decide +kernel
theorem dX8_readPart_13 : decode cX8_readPart 13 = .ok (.if_icmp .ne 27, 3) := by decide +kernel
theorem dX8_readPart_16 : decode cX8_readPart 16 = .ok (.aload_n 0, 1) := by decide +kernel
theorem dX8_readPart_17 : decode cX8_readPart 17 = .ok (.getfield 94, 3) := by decide +kernel
theorem dX8_readPart_20 : decode cX8_readPart 20 = .ok (.bipush 8, 2) := by decide +kernel
theorem dX8_readPart_22 : decode cX8_readPart 22 = .ok (.if_icmp .ge 18, 3) := by decide +kernel
theorem dX8_readPart_25 : decode cX8_readPart 25 = .ok (.aload_n 0, 1) := by decide +kernel
theorem dX8_readPart_26 : decode cX8_readPart 26 = .ok (.dup, 1) := by decide +kernel
theorem dX8_readPart_27 : decode cX8_readPart 27 = .ok (.getfield 84, 3) := by decide +kernel
theorem dX8_readPart_30 : decode cX8_readPart 30 = .ok (.iconst 1, 1) := by decide +kernel
theorem dX8_readPart_31 : decode cX8_readPart 31 = .ok (.iadd, 1) := by decide +kernel
theorem dX8_readPart_32 : decode cX8_readPart 32 = .ok (.putfield 84, 3) := by decide +kernel
theorem dX8_readPart_35 : decode cX8_readPart 35 = .ok (.aload_n 0, 1) := by decide +kernel
theorem dX8_readPart_36 : decode cX8_readPart 36 = .ok (.invokevirtual 108, 3) := by decide +kernel
theorem dX8_readPart_39 : decode cX8_readPart 39 = .ok (.ireturn, 1) := by decide +kernel
theorem dX8_readPart_40 : decode cX8_readPart 40 = .ok (.iload_n 1, 1) := by decide +kernel
theorem dX8_readPart_41 : decode cX8_readPart 41 = .ok (.bipush 65, 2) := by decide +kernel
theorem dX8_readPart_43 : decode cX8_readPart 43 = .ok (.if_icmp .ne 34, 3) := by decide +kernel
theorem dX8_readPart_46 : decode cX8_readPart 46 = .ok (.aload_n 0, 1) := by decide +kernel
theorem dX8_readPart_47 : decode cX8_readPart 47 = .ok (.getfield 105, 3) := by decide +kernel
theorem dX8_readPart_50 : decode cX8_readPart 50 = .ok (.bipush 12, 2) := by decide +kernel
theorem dX8_readPart_52 : decode cX8_readPart 52 = .ok (.if_icmp .ge 25, 3) := by decide +kernel
theorem dX8_readPart_55 : decode cX8_readPart 55 = .ok (.aload_n 0, 1) := by decide +kernel
theorem dX8_readPart_56 : decode cX8_readPart 56 = .ok (.invokevirtual 112, 3) := by decide +kernel
theorem dX8_readPart_59 : decode cX8_readPart 59 = .ok (.ifCond .eq 18, 3) := by decide +kernel
theorem dX8_readPart_62 : decode cX8_readPart 62 = .ok (.aload_n 0, 1) := by decide +kernel
theorem dX8_readPart_63 : decode cX8_readPart 63 = .ok (.dup, 1) := by decide +kernel
theorem dX8_readPart_64 : decode cX8_readPart 64 = .ok (.getfield 84, 3) := by decide +kernel
theorem dX8_readPart_67 : decode cX8_readPart 67 = .ok (.iconst 1, 1) := by decide +kernel
theorem dX8_readPart_68 : decode cX8_readPart 68 = .ok (.iadd, 1) := by decide +kernel
theorem dX8_readPart_69 : decode cX8_readPart 69 = .ok (.putfield 84, 3) := by decide +kernel
theorem dX8_readPart_72 : decode cX8_readPart 72 = .ok (.aload_n 0, 1) := by decide +kernel
theorem dX8_readPart_73 : decode cX8_readPart 73 = .ok (.invokevirtual 115, 3) := by decide +kernel
theorem dX8_readPart_76 : decode cX8_readPart 76 = .ok (.ireturn, 1) := by decide +kernel
theorem dX8_readPart_77 : decode cX8_readPart 77 = .ok (.iconst 0, 1) := by decide +kernel
theorem dX8_readPart_78 : decode cX8_readPart 78 = .ok (.ireturn, 1) := by decide +kernel
theorem dX8_readCensus_0 : decode cX8_readCensus 0 = .ok (.aload_n 0, 1) := by decide +kernel
theorem dX8_readCensus_1 : decode cX8_readCensus 1 = .ok (.iconst 0, 1) := by decide +kernel
theorem dX8_readCensus_2 : decode cX8_readCensus 2 = .ok (.putfield 84, 3) := by decide +kernel
theorem dX8_readCensus_5 : decode cX8_readCensus 5 = .ok (.aload_n 0, 1) := by decide +kernel
theorem dX8_readCensus_6 : decode cX8_readCensus 6 = .ok (.iconst 0, 1) := by decide +kernel
theorem dX8_readCensus_7 : decode cX8_readCensus 7 = .ok (.putfield 94, 3) := by decide +kernel
theorem dX8_readCensus_10 : decode cX8_readCensus 10 = .ok (.aload_n 0, 1) := by decide +kernel
theorem dX8_readCensus_11 : decode cX8_readCensus 11 = .ok (.iconst 0, 1) := by decide +kernel
theorem dX8_readCensus_12 : decode cX8_readCensus 12 = .ok (.putfield 105, 3) := by decide +kernel
theorem dX8_readCensus_15 : decode cX8_readCensus 15 = .ok (.aload_n 0, 1) := by decide +kernel
theorem dX8_readCensus_16 : decode cX8_readCensus 16 = .ok (.getfield 81, 3) := by decide +kernel
theorem dX8_readCensus_19 : decode cX8_readCensus 19 = .ok (.ifCond .eq 14, 3) := by decide +kernel
theorem dX8_readCensus_22 : decode cX8_readCensus 22 = .ok (.aload_n 0, 1) := by decide +kernel
theorem dX8_readCensus_23 : decode cX8_readCensus 23 = .ok (.getfield 7, 3) := by decide +kernel
theorem dX8_readCensus_26 : decode cX8_readCensus 26 = .ok (.iconst 0, 1) := by decide +kernel
theorem dX8_readCensus_27 : decode cX8_readCensus 27 = .ok (.iaload, 1) := by decide +kernel
theorem dX8_readCensus_28 : decode cX8_readCensus 28 = .ok (.bipush 90, 2) := by decide +kernel
theorem dX8_readCensus_30 : decode cX8_readCensus 30 = .ok (.if_icmp .eq 5, 3) := by decide +kernel
theorem dX8_readCensus_33 : decode cX8_readCensus 33 = .ok (.iconst 0, 1) := by decide +kernel
theorem dX8_readCensus_34 : decode cX8_readCensus 34 = .ok (.ireturn, 1) := by decide +kernel
theorem dX8_readCensus_35 : decode cX8_readCensus 35 = .ok (.aload_n 0, 1) := by decide +kernel
theorem dX8_readCensus_36 : decode cX8_readCensus 36 = .ok (.iconst 1, 1) := by decide +kernel
theorem dX8_readCensus_37 : decode cX8_readCensus 37 = .ok (.putfield 84, 3) := by decide +kernel
theorem dX8_readCensus_40 : decode cX8_readCensus 40 = .ok (.aload_n 0, 1) := by decide +kernel
theorem dX8_readCensus_41 : decode cX8_readCensus 41 = .ok (.aload_n 0, 1) := by decide +kernel
theorem dX8_readCensus_42 : decode cX8_readCensus 42 = .ok (.bipush 48, 2) := by decide +kernel
theorem dX8_readCensus_44 : decode cX8_readCensus 44 = .ok (.iconst 0, 1) := by decide +kernel
theorem dX8_readCensus_45 : decode cX8_readCensus 45 = .ok (.iconst 2, 1) := by decide +kernel
theorem dX8_readCensus_46 : decode cX8_readCensus 46 = .ok (.invokevirtual 90, 3) := by decide +kernel
theorem dX8_readCensus_49 : decode cX8_readCensus 49 = .ok (.putfield 118, 3) := by decide +kernel
theorem dX8_readCensus_52 : decode cX8_readCensus 52 = .ok (.aload_n 0, 1) := by decide +kernel
theorem dX8_readCensus_53 : decode cX8_readCensus 53 = .ok (.aload_n 0, 1) := by decide +kernel
theorem dX8_readCensus_54 : decode cX8_readCensus 54 = .ok (.getfield 118, 3) := by decide +kernel
theorem dX8_readCensus_57 : decode cX8_readCensus 57 = .ok (.bipush (-9), 2) := by decide +kernel
theorem dX8_readCensus_59 : decode cX8_readCensus 59 = .ok (.if_icmp .ne 8, 3) := by decide +kernel
theorem dX8_readCensus_62 : decode cX8_readCensus 62 = .ok (.bipush (-9), 2) := by decide +kernel
theorem dX8_readCensus_64 : decode cX8_readCensus 64 = .ok (.goto 11, 3) := by decide +kernel
theorem dX8_readCensus_67 : decode cX8_readCensus 67 = .ok (.aload_n 0, 1) := by decide +kernel
theorem dX8_readCensus_68 : decode cX8_readCensus 68 = .ok (.bipush 48, 2) := by decide +kernel
theorem dX8_readCensus_70 : decode cX8_readCensus 70 = .ok (.iconst 1, 1) := by decide +kernel
theorem dX8_readCensus_71 : decode cX8_readCensus 71 = .ok (.iconst 4, 1) := by decide +kernel
theorem dX8_readCensus_72 : decode cX8_readCensus 72 = .ok (.invokevirtual 90, 3) := by decide +kernel
theorem dX8_readCensus_75 : decode cX8_readCensus 75 = .ok (.putfield 87, 3) := by decide +kernel
theorem dX8_readCensus_78 : decode cX8_readCensus 78 = .ok (.aload_n 0, 1) := by decide +kernel
theorem dX8_readCensus_79 : decode cX8_readCensus 79 = .ok (.getfield 87, 3) := by decide +kernel
theorem dX8_readCensus_82 : decode cX8_readCensus 82 = .ok (.bipush (-9), 2) := by decide +kernel
theorem dX8_readCensus_84 : decode cX8_readCensus 84 = .ok (.if_icmp .ne 8, 3) := by decide +kernel
theorem dX8_readCensus_87 : decode cX8_readCensus 87 = .ok (.aload_n 0, 1) := by decide +kernel
theorem dX8_readCensus_88 : decode cX8_readCensus 88 = .ok (.getfield 84, 3) := by decide +kernel
theorem dX8_readCensus_91 : decode cX8_readCensus 91 = .ok (.ireturn, 1) := by decide +kernel
theorem dX8_readCensus_92 : decode cX8_readCensus 92 = .ok (.aload_n 0, 1) := by decide +kernel
theorem dX8_readCensus_93 : decode cX8_readCensus 93 = .ok (.getfield 84, 3) := by decide +kernel
theorem dX8_readCensus_96 : decode cX8_readCensus 96 = .ok (.aload_n 0, 1) := by decide +kernel
theorem dX8_readCensus_97 : decode cX8_readCensus 97 = .ok (.getfield 81, 3) := by decide +kernel
theorem dX8_readCensus_100 : decode cX8_readCensus 100 = .ok (.if_icmp .ge 15, 3) := by decide +kernel
theorem dX8_readCensus_103 : decode cX8_readCensus 103 = .ok (.aload_n 0, 1) := by decide +kernel
theorem dX8_readCensus_104 : decode cX8_readCensus 104 = .ok (.invokevirtual 121, 3) := by decide +kernel
theorem dX8_readCensus_107 : decode cX8_readCensus 107 = .ok (.ifCond .ne (-15), 3) := by decide +kernel
theorem dX8_readCensus_110 : decode cX8_readCensus 110 = .ok (.aload_n 0, 1) := by decide +kernel
theorem dX8_readCensus_111 : decode cX8_readCensus 111 = .ok (.getfield 84, 3) := by decide +kernel
theorem dX8_readCensus_114 : decode cX8_readCensus 114 = .ok (.ireturn, 1) := by decide +kernel
theorem dX8_readCensus_115 : decode cX8_readCensus 115 = .ok (.bipush (-9), 2) := by decide +kernel
theorem dX8_readCensus_117 : decode cX8_readCensus 117 = .ok (.ireturn, 1) := by decide +kernel
theorem dX8_fault_0 : decode cX8_fault 0 = .ok (.aload_n 0, 1) := by decide +kernel
theorem dX8_fault_1 : decode cX8_fault 1 = .ok (.iconst 0, 1) := by decide +kernel
theorem dX8_fault_2 : decode cX8_fault 2 = .ok (.putfield 69, 3) := by decide +kernel
theorem dX8_fault_5 : decode cX8_fault 5 = .ok (.aload_n 0, 1) := by decide +kernel
theorem dX8_fault_6 : decode cX8_fault 6 = .ok (.invokevirtual 124, 3) := by decide +kernel
theorem dX8_fault_9 : decode cX8_fault 9 = .ok (.ireturn, 1) := by decide +kernel
theorem dX8_census_0 : decode cX8_census 0 = .ok (.aload_n 0, 1) := by decide +kernel
theorem dX8_census_1 : decode cX8_census 1 = .ok (.iconst 0, 1) := by decide +kernel
theorem dX8_census_2 : decode cX8_census 2 = .ok (.putfield 69, 3) := by decide +kernel
theorem dX8_census_5 : decode cX8_census 5 = .ok (.aload_n 0, 1) := by decide +kernel
theorem dX8_census_6 : decode cX8_census 6 = .ok (.invokevirtual 124, 3) := by decide +kernel
theorem dX8_census_9 : decode cX8_census 9 = .ok (.bipush (-9), 2) := by decide +kernel
theorem dX8_census_11 : decode cX8_census 11 = .ok (.if_icmp .eq 6, 3) := by decide +kernel
theorem dX8_census_14 : decode cX8_census 14 = .ok (.bipush (-3), 2) := by decide +kernel
theorem dX8_census_16 : decode cX8_census 16 = .ok (.ireturn, 1) := by decide +kernel
theorem dX8_census_17 : decode cX8_census 17 = .ok (.aload_n 0, 1) := by decide +kernel
theorem dX8_census_18 : decode cX8_census 18 = .ok (.aload_n 0, 1) := by decide +kernel
theorem dX8_census_19 : decode cX8_census 19 = .ok (.getfield 118, 3) := by decide +kernel
theorem dX8_census_22 : decode cX8_census 22 = .ok (.putfield 128, 3) := by decide +kernel
theorem dX8_census_25 : decode cX8_census 25 = .ok (.aload_n 0, 1) := by decide +kernel
theorem dX8_census_26 : decode cX8_census 26 = .ok (.aload_n 0, 1) := by decide +kernel
theorem dX8_census_27 : decode cX8_census 27 = .ok (.getfield 87, 3) := by decide +kernel
theorem dX8_census_30 : decode cX8_census 30 = .ok (.putfield 13, 3) := by decide +kernel
theorem dX8_census_33 : decode cX8_census 33 = .ok (.aload_n 0, 1) := by decide +kernel
theorem dX8_census_34 : decode cX8_census 34 = .ok (.aload_n 0, 1) := by decide +kernel
theorem dX8_census_35 : decode cX8_census 35 = .ok (.getfield 94, 3) := by decide +kernel
theorem dX8_census_38 : decode cX8_census 38 = .ok (.putfield 72, 3) := by decide +kernel
theorem dX8_census_41 : decode cX8_census 41 = .ok (.iconst 0, 1) := by decide +kernel
theorem dX8_census_42 : decode cX8_census 42 = .ok (.istore_n 1, 1) := by decide +kernel
theorem dX8_census_43 : decode cX8_census 43 = .ok (.iload_n 1, 1) := by decide +kernel
theorem dX8_census_44 : decode cX8_census 44 = .ok (.aload_n 0, 1) := by decide +kernel
theorem dX8_census_45 : decode cX8_census 45 = .ok (.getfield 72, 3) := by decide +kernel
theorem dX8_census_48 : decode cX8_census 48 = .ok (.if_icmp .ge 84, 3) := by decide +kernel
theorem dX8_census_51 : decode cX8_census 51 = .ok (.aload_n 0, 1) := by decide +kernel
theorem dX8_census_52 : decode cX8_census 52 = .ok (.getfield 17, 3) := by decide +kernel
theorem dX8_census_55 : decode cX8_census 55 = .ok (.iload_n 1, 1) := by decide +kernel
theorem dX8_census_56 : decode cX8_census 56 = .ok (.aload_n 0, 1) := by decide +kernel
theorem dX8_census_57 : decode cX8_census 57 = .ok (.getfield 41, 3) := by decide +kernel
theorem dX8_census_60 : decode cX8_census 60 = .ok (.iload_n 1, 1) := by decide +kernel
theorem dX8_census_61 : decode cX8_census 61 = .ok (.iaload, 1) := by decide +kernel
theorem dX8_census_62 : decode cX8_census 62 = .ok (.iastore, 1) := by decide +kernel
theorem dX8_census_63 : decode cX8_census 63 = .ok (.aload_n 0, 1) := by decide +kernel
theorem dX8_census_64 : decode cX8_census 64 = .ok (.getfield 20, 3) := by decide +kernel
theorem dX8_census_67 : decode cX8_census 67 = .ok (.iload_n 1, 1) := by decide +kernel
theorem dX8_census_68 : decode cX8_census 68 = .ok (.aload_n 0, 1) := by decide +kernel
theorem dX8_census_69 : decode cX8_census 69 = .ok (.getfield 44, 3) := by decide +kernel
theorem dX8_census_72 : decode cX8_census 72 = .ok (.iload_n 1, 1) := by decide +kernel
theorem dX8_census_73 : decode cX8_census 73 = .ok (.iaload, 1) := by decide +kernel
theorem dX8_census_74 : decode cX8_census 74 = .ok (.iastore, 1) := by decide +kernel
theorem dX8_census_75 : decode cX8_census 75 = .ok (.aload_n 0, 1) := by decide +kernel
theorem dX8_census_76 : decode cX8_census 76 = .ok (.getfield 23, 3) := by decide +kernel
theorem dX8_census_79 : decode cX8_census 79 = .ok (.iload_n 1, 1) := by decide +kernel
theorem dX8_census_80 : decode cX8_census 80 = .ok (.aload_n 0, 1) := by decide +kernel
theorem dX8_census_81 : decode cX8_census 81 = .ok (.getfield 47, 3) := by decide +kernel
theorem dX8_census_84 : decode cX8_census 84 = .ok (.iload_n 1, 1) := by decide +kernel
theorem dX8_census_85 : decode cX8_census 85 = .ok (.iaload, 1) := by decide +kernel
theorem dX8_census_86 : decode cX8_census 86 = .ok (.iastore, 1) := by decide +kernel
theorem dX8_census_87 : decode cX8_census 87 = .ok (.aload_n 0, 1) := by decide +kernel
theorem dX8_census_88 : decode cX8_census 88 = .ok (.getfield 26, 3) := by decide +kernel
theorem dX8_census_91 : decode cX8_census 91 = .ok (.iload_n 1, 1) := by decide +kernel
theorem dX8_census_92 : decode cX8_census 92 = .ok (.aload_n 0, 1) := by decide +kernel
theorem dX8_census_93 : decode cX8_census 93 = .ok (.getfield 50, 3) := by decide +kernel
theorem dX8_census_96 : decode cX8_census 96 = .ok (.iload_n 1, 1) := by decide +kernel
theorem dX8_census_97 : decode cX8_census 97 = .ok (.iaload, 1) := by decide +kernel
theorem dX8_census_98 : decode cX8_census 98 = .ok (.iastore, 1) := by decide +kernel
theorem dX8_census_99 : decode cX8_census 99 = .ok (.aload_n 0, 1) := by decide +kernel
theorem dX8_census_100 : decode cX8_census 100 = .ok (.getfield 29, 3) := by decide +kernel
theorem dX8_census_103 : decode cX8_census 103 = .ok (.iload_n 1, 1) := by decide +kernel
theorem dX8_census_104 : decode cX8_census 104 = .ok (.aload_n 0, 1) := by decide +kernel
theorem dX8_census_105 : decode cX8_census 105 = .ok (.getfield 17, 3) := by decide +kernel
theorem dX8_census_108 : decode cX8_census 108 = .ok (.iload_n 1, 1) := by decide +kernel
theorem dX8_census_109 : decode cX8_census 109 = .ok (.iaload, 1) := by decide +kernel
theorem dX8_census_110 : decode cX8_census 110 = .ok (.iastore, 1) := by decide +kernel
theorem dX8_census_111 : decode cX8_census 111 = .ok (.aload_n 0, 1) := by decide +kernel
theorem dX8_census_112 : decode cX8_census 112 = .ok (.getfield 32, 3) := by decide +kernel
theorem dX8_census_115 : decode cX8_census 115 = .ok (.iload_n 1, 1) := by decide +kernel
theorem dX8_census_116 : decode cX8_census 116 = .ok (.iconst 0, 1) := by decide +kernel
theorem dX8_census_117 : decode cX8_census 117 = .ok (.iastore, 1) := by decide +kernel
theorem dX8_census_118 : decode cX8_census 118 = .ok (.aload_n 0, 1) := by decide +kernel
theorem dX8_census_119 : decode cX8_census 119 = .ok (.getfield 35, 3) := by decide +kernel
theorem dX8_census_122 : decode cX8_census 122 = .ok (.iload_n 1, 1) := by decide +kernel
theorem dX8_census_123 : decode cX8_census 123 = .ok (.bipush (-9), 2) := by decide +kernel
theorem dX8_census_125 : decode cX8_census 125 = .ok (.iastore, 1) := by decide +kernel
theorem dX8_census_126 : decode cX8_census 126 = .ok (.iinc 1 1, 3) := by decide +kernel
theorem dX8_census_129 : decode cX8_census 129 = .ok (.goto (-86), 3) := by decide +kernel
theorem dX8_census_132 : decode cX8_census 132 = .ok (.iconst 0, 1) := by decide +kernel
theorem dX8_census_133 : decode cX8_census 133 = .ok (.istore_n 1, 1) := by decide +kernel
theorem dX8_census_134 : decode cX8_census 134 = .ok (.iload_n 1, 1) := by decide +kernel
theorem dX8_census_135 : decode cX8_census 135 = .ok (.iconst 4, 1) := by decide +kernel
theorem dX8_census_136 : decode cX8_census 136 = .ok (.if_icmp .ge 16, 3) := by decide +kernel
theorem dX8_census_139 : decode cX8_census 139 = .ok (.aload_n 0, 1) := by decide +kernel
theorem dX8_census_140 : decode cX8_census 140 = .ok (.getfield 38, 3) := by decide +kernel
theorem dX8_census_143 : decode cX8_census 143 = .ok (.iload_n 1, 1) := by decide +kernel
theorem dX8_census_144 : decode cX8_census 144 = .ok (.iconst 0, 1) := by decide +kernel
theorem dX8_census_145 : decode cX8_census 145 = .ok (.iastore, 1) := by decide +kernel
theorem dX8_census_146 : decode cX8_census 146 = .ok (.iinc 1 1, 3) := by decide +kernel
theorem dX8_census_149 : decode cX8_census 149 = .ok (.goto (-15), 3) := by decide +kernel
theorem dX8_census_152 : decode cX8_census 152 = .ok (.aload_n 0, 1) := by decide +kernel
theorem dX8_census_153 : decode cX8_census 153 = .ok (.iconst 0, 1) := by decide +kernel
theorem dX8_census_154 : decode cX8_census 154 = .ok (.putfield 131, 3) := by decide +kernel
theorem dX8_census_157 : decode cX8_census 157 = .ok (.aload_n 0, 1) := by decide +kernel
theorem dX8_census_158 : decode cX8_census 158 = .ok (.iconst 0, 1) := by decide +kernel
theorem dX8_census_159 : decode cX8_census 159 = .ok (.putfield 134, 3) := by decide +kernel
theorem dX8_census_162 : decode cX8_census 162 = .ok (.aload_n 0, 1) := by decide +kernel
theorem dX8_census_163 : decode cX8_census 163 = .ok (.getfield 59, 3) := by decide +kernel
theorem dX8_census_166 : decode cX8_census 166 = .ok (.iconst 0, 1) := by decide +kernel
theorem dX8_census_167 : decode cX8_census 167 = .ok (.iconst 0, 1) := by decide +kernel
theorem dX8_census_168 : decode cX8_census 168 = .ok (.bastore, 1) := by decide +kernel
theorem dX8_census_169 : decode cX8_census 169 = .ok (.aload_n 0, 1) := by decide +kernel
theorem dX8_census_170 : decode cX8_census 170 = .ok (.getfield 59, 3) := by decide +kernel
theorem dX8_census_173 : decode cX8_census 173 = .ok (.iconst 1, 1) := by decide +kernel
theorem dX8_census_174 : decode cX8_census 174 = .ok (.iconst 0, 1) := by decide +kernel
theorem dX8_census_175 : decode cX8_census 175 = .ok (.bastore, 1) := by decide +kernel
theorem dX8_census_176 : decode cX8_census 176 = .ok (.aload_n 0, 1) := by decide +kernel
theorem dX8_census_177 : decode cX8_census 177 = .ok (.getfield 72, 3) := by decide +kernel
theorem dX8_census_180 : decode cX8_census 180 = .ok (.ireturn, 1) := by decide +kernel
theorem dX8_away_0 : decode cX8_away 0 = .ok (.aload_n 0, 1) := by decide +kernel
theorem dX8_away_1 : decode cX8_away 1 = .ok (.getfield 29, 3) := by decide +kernel
theorem dX8_away_4 : decode cX8_away 4 = .ok (.iload_n 1, 1) := by decide +kernel
theorem dX8_away_5 : decode cX8_away 5 = .ok (.iaload, 1) := by decide +kernel
theorem dX8_away_6 : decode cX8_away 6 = .ok (.aload_n 0, 1) := by decide +kernel
theorem dX8_away_7 : decode cX8_away 7 = .ok (.getfield 17, 3) := by decide +kernel
theorem dX8_away_10 : decode cX8_away 10 = .ok (.iload_n 1, 1) := by decide +kernel
theorem dX8_away_11 : decode cX8_away 11 = .ok (.iaload, 1) := by decide +kernel
theorem dX8_away_12 : decode cX8_away 12 = .ok (.if_icmp .ge 19, 3) := by decide +kernel
theorem dX8_away_15 : decode cX8_away 15 = .ok (.aload_n 0, 1) := by decide +kernel
theorem dX8_away_16 : decode cX8_away 16 = .ok (.getfield 17, 3) := by decide +kernel
theorem dX8_away_19 : decode cX8_away 19 = .ok (.iload_n 1, 1) := by decide +kernel
theorem dX8_away_20 : decode cX8_away 20 = .ok (.iaload, 1) := by decide +kernel
theorem dX8_away_21 : decode cX8_away 21 = .ok (.aload_n 0, 1) := by decide +kernel
theorem dX8_away_22 : decode cX8_away 22 = .ok (.getfield 29, 3) := by decide +kernel
theorem dX8_away_25 : decode cX8_away 25 = .ok (.iload_n 1, 1) := by decide +kernel
theorem dX8_away_26 : decode cX8_away 26 = .ok (.iaload, 1) := by decide +kernel
theorem dX8_away_27 : decode cX8_away 27 = .ok (.isub, 1) := by decide +kernel
theorem dX8_away_28 : decode cX8_away 28 = .ok (.goto 16, 3) := by decide +kernel
theorem dX8_away_31 : decode cX8_away 31 = .ok (.aload_n 0, 1) := by decide +kernel
theorem dX8_away_32 : decode cX8_away 32 = .ok (.getfield 29, 3) := by decide +kernel
theorem dX8_away_35 : decode cX8_away 35 = .ok (.iload_n 1, 1) := by decide +kernel
theorem dX8_away_36 : decode cX8_away 36 = .ok (.iaload, 1) := by decide +kernel
theorem dX8_away_37 : decode cX8_away 37 = .ok (.aload_n 0, 1) := by decide +kernel
theorem dX8_away_38 : decode cX8_away 38 = .ok (.getfield 17, 3) := by decide +kernel
theorem dX8_away_41 : decode cX8_away 41 = .ok (.iload_n 1, 1) := by decide +kernel
theorem dX8_away_42 : decode cX8_away 42 = .ok (.iaload, 1) := by decide +kernel
theorem dX8_away_43 : decode cX8_away 43 = .ok (.isub, 1) := by decide +kernel
theorem dX8_away_44 : decode cX8_away 44 = .ok (.ireturn, 1) := by decide +kernel
theorem dX8_isMissing_0 : decode cX8_isMissing 0 = .ok (.aload_n 0, 1) := by decide +kernel
theorem dX8_isMissing_1 : decode cX8_isMissing 1 = .ok (.getfield 35, 3) := by decide +kernel
theorem dX8_isMissing_4 : decode cX8_isMissing 4 = .ok (.iload_n 1, 1) := by decide +kernel
theorem dX8_isMissing_5 : decode cX8_isMissing 5 = .ok (.iaload, 1) := by decide +kernel
theorem dX8_isMissing_6 : decode cX8_isMissing 6 = .ok (.bipush (-9), 2) := by decide +kernel
theorem dX8_isMissing_8 : decode cX8_isMissing 8 = .ok (.if_icmp .ne 26, 3) := by decide +kernel
theorem dX8_isMissing_11 : decode cX8_isMissing 11 = .ok (.aload_n 0, 1) := by decide +kernel
theorem dX8_isMissing_12 : decode cX8_isMissing 12 = .ok (.getfield 29, 3) := by decide +kernel
theorem dX8_isMissing_15 : decode cX8_isMissing 15 = .ok (.iload_n 1, 1) := by decide +kernel
theorem dX8_isMissing_16 : decode cX8_isMissing 16 = .ok (.iaload, 1) := by decide +kernel
theorem dX8_isMissing_17 : decode cX8_isMissing 17 = .ok (.aload_n 0, 1) := by decide +kernel
theorem dX8_isMissing_18 : decode cX8_isMissing 18 = .ok (.getfield 17, 3) := by decide +kernel
theorem dX8_isMissing_21 : decode cX8_isMissing 21 = .ok (.iload_n 1, 1) := by decide +kernel
theorem dX8_isMissing_22 : decode cX8_isMissing 22 = .ok (.iaload, 1) := by decide +kernel
theorem dX8_isMissing_23 : decode cX8_isMissing 23 = .ok (.if_icmp .eq 7, 3) := by decide +kernel
theorem dX8_isMissing_26 : decode cX8_isMissing 26 = .ok (.iconst 1, 1) := by decide +kernel
theorem dX8_isMissing_27 : decode cX8_isMissing 27 = .ok (.goto 28, 3) := by decide +kernel
theorem dX8_isMissing_30 : decode cX8_isMissing 30 = .ok (.iconst 0, 1) := by decide +kernel
theorem dX8_isMissing_31 : decode cX8_isMissing 31 = .ok (.goto 24, 3) := by decide +kernel
theorem dX8_isMissing_34 : decode cX8_isMissing 34 = .ok (.iload_n 2, 1) := by decide +kernel
theorem dX8_isMissing_35 : decode cX8_isMissing 35 = .ok (.aload_n 0, 1) := by decide +kernel
theorem dX8_isMissing_36 : decode cX8_isMissing 36 = .ok (.getfield 35, 3) := by decide +kernel
theorem dX8_isMissing_39 : decode cX8_isMissing 39 = .ok (.iload_n 1, 1) := by decide +kernel
theorem dX8_isMissing_40 : decode cX8_isMissing 40 = .ok (.iaload, 1) := by decide +kernel
theorem dX8_isMissing_41 : decode cX8_isMissing 41 = .ok (.aload_n 0, 1) := by decide +kernel
theorem dX8_isMissing_42 : decode cX8_isMissing 42 = .ok (.iload_n 1, 1) := by decide +kernel
theorem dX8_isMissing_43 : decode cX8_isMissing 43 = .ok (.invokevirtual 137, 3) := by decide +kernel
theorem dX8_isMissing_46 : decode cX8_isMissing 46 = .ok (.iadd, 1) := by decide +kernel
theorem dX8_isMissing_47 : decode cX8_isMissing 47 = .ok (.if_icmp .ge 7, 3) := by decide +kernel
theorem dX8_isMissing_50 : decode cX8_isMissing 50 = .ok (.iconst 1, 1) := by decide +kernel
theorem dX8_isMissing_51 : decode cX8_isMissing 51 = .ok (.goto 4, 3) := by decide +kernel
theorem dX8_isMissing_54 : decode cX8_isMissing 54 = .ok (.iconst 0, 1) := by decide +kernel
theorem dX8_isMissing_55 : decode cX8_isMissing 55 = .ok (.ireturn, 1) := by decide +kernel
theorem dX8_isThere_0 : decode cX8_isThere 0 = .ok (.aload_n 0, 1) := by decide +kernel
theorem dX8_isThere_1 : decode cX8_isThere 1 = .ok (.getfield 35, 3) := by decide +kernel
theorem dX8_isThere_4 : decode cX8_isThere 4 = .ok (.iload_n 1, 1) := by decide +kernel
theorem dX8_isThere_5 : decode cX8_isThere 5 = .ok (.iaload, 1) := by decide +kernel
theorem dX8_isThere_6 : decode cX8_isThere 6 = .ok (.bipush (-9), 2) := by decide +kernel
theorem dX8_isThere_8 : decode cX8_isThere 8 = .ok (.if_icmp .ne 22, 3) := by decide +kernel
theorem dX8_isThere_11 : decode cX8_isThere 11 = .ok (.aload_n 0, 1) := by decide +kernel
theorem dX8_isThere_12 : decode cX8_isThere 12 = .ok (.getfield 29, 3) := by decide +kernel
theorem dX8_isThere_15 : decode cX8_isThere 15 = .ok (.iload_n 1, 1) := by decide +kernel
theorem dX8_isThere_16 : decode cX8_isThere 16 = .ok (.iaload, 1) := by decide +kernel
theorem dX8_isThere_17 : decode cX8_isThere 17 = .ok (.aload_n 0, 1) := by decide +kernel
theorem dX8_isThere_18 : decode cX8_isThere 18 = .ok (.getfield 17, 3) := by decide +kernel
theorem dX8_isThere_21 : decode cX8_isThere 21 = .ok (.iload_n 1, 1) := by decide +kernel
theorem dX8_isThere_22 : decode cX8_isThere 22 = .ok (.iaload, 1) := by decide +kernel
theorem dX8_isThere_23 : decode cX8_isThere 23 = .ok (.if_icmp .ne 7, 3) := by decide +kernel
theorem dX8_isThere_26 : decode cX8_isThere 26 = .ok (.iconst 1, 1) := by decide +kernel
theorem dX8_isThere_27 : decode cX8_isThere 27 = .ok (.goto 4, 3) := by decide +kernel
theorem dX8_isThere_30 : decode cX8_isThere 30 = .ok (.iconst 0, 1) := by decide +kernel
theorem dX8_isThere_31 : decode cX8_isThere 31 = .ok (.ireturn, 1) := by decide +kernel
theorem dX8_remembers_0 : decode cX8_remembers 0 = .ok (.iload_n 3, 1) := by decide +kernel
theorem dX8_remembers_1 : decode cX8_remembers 1 = .ok (.aload_n 0, 1) := by decide +kernel
theorem dX8_remembers_2 : decode cX8_remembers 2 = .ok (.getfield 32, 3) := by decide +kernel
theorem dX8_remembers_5 : decode cX8_remembers 5 = .ok (.iload_n 2, 1) := by decide +kernel
theorem dX8_remembers_6 : decode cX8_remembers 6 = .ok (.iaload, 1) := by decide +kernel
theorem dX8_remembers_7 : decode cX8_remembers 7 = .ok (.isub, 1) := by decide +kernel
theorem dX8_remembers_8 : decode cX8_remembers 8 = .ok (.aload_n 0, 1) := by decide +kernel
theorem dX8_remembers_9 : decode cX8_remembers 9 = .ok (.getfield 23, 3) := by decide +kernel
theorem dX8_remembers_12 : decode cX8_remembers 12 = .ok (.iload_n 1, 1) := by decide +kernel
theorem dX8_remembers_13 : decode cX8_remembers 13 = .ok (.iaload, 1) := by decide +kernel
theorem dX8_remembers_14 : decode cX8_remembers 14 = .ok (.if_icmp .gt 7, 3) := by decide +kernel
theorem dX8_remembers_17 : decode cX8_remembers 17 = .ok (.iconst 1, 1) := by decide +kernel
theorem dX8_remembers_18 : decode cX8_remembers 18 = .ok (.goto 4, 3) := by decide +kernel
theorem dX8_remembers_21 : decode cX8_remembers 21 = .ok (.iconst 0, 1) := by decide +kernel
theorem dX8_remembers_22 : decode cX8_remembers 22 = .ok (.ireturn, 1) := by decide +kernel
theorem dX8_misses_0 : decode cX8_misses 0 = .ok (.iconst 0, 1) := by decide +kernel
theorem dX8_misses_1 : decode cX8_misses 1 = .ok (.istore_n 3, 1) := by decide +kernel
theorem dX8_misses_2 : decode cX8_misses 2 = .ok (.iconst 0, 1) := by decide +kernel
theorem dX8_misses_3 : decode cX8_misses 3 = .ok (.istore 4, 2) := by decide +kernel
theorem dX8_misses_5 : decode cX8_misses 5 = .ok (.iload 4, 2) := by decide +kernel
theorem dX8_misses_7 : decode cX8_misses 7 = .ok (.aload_n 0, 1) := by decide +kernel
theorem dX8_misses_8 : decode cX8_misses 8 = .ok (.getfield 72, 3) := by decide +kernel
theorem dX8_misses_11 : decode cX8_misses 11 = .ok (.if_icmp .ge 91, 3) := by decide +kernel
theorem dX8_misses_14 : decode cX8_misses 14 = .ok (.aload_n 0, 1) := by decide +kernel
theorem dX8_misses_15 : decode cX8_misses 15 = .ok (.getfield 26, 3) := by decide +kernel
theorem dX8_misses_18 : decode cX8_misses 18 = .ok (.iload_n 1, 1) := by decide +kernel
theorem dX8_misses_19 : decode cX8_misses 19 = .ok (.iaload, 1) := by decide +kernel
theorem dX8_misses_20 : decode cX8_misses 20 = .ok (.iload 4, 2) := by decide +kernel
theorem dX8_misses_22 : decode cX8_misses 22 = .ok (.invokestatic 101, 3) := by decide +kernel
theorem dX8_misses_25 : decode cX8_misses 25 = .ok (.ifCond .eq 52, 3) := by decide +kernel
theorem dX8_misses_28 : decode cX8_misses 28 = .ok (.aload_n 0, 1) := by decide +kernel
theorem dX8_misses_29 : decode cX8_misses 29 = .ok (.getfield 17, 3) := by decide +kernel
theorem dX8_misses_32 : decode cX8_misses 32 = .ok (.iload_n 1, 1) := by decide +kernel
theorem dX8_misses_33 : decode cX8_misses 33 = .ok (.iaload, 1) := by decide +kernel
theorem dX8_misses_34 : decode cX8_misses 34 = .ok (.aload_n 0, 1) := by decide +kernel
theorem dX8_misses_35 : decode cX8_misses 35 = .ok (.getfield 17, 3) := by decide +kernel
theorem dX8_misses_38 : decode cX8_misses 38 = .ok (.iload 4, 2) := by decide +kernel
theorem dX8_misses_40 : decode cX8_misses 40 = .ok (.iaload, 1) := by decide +kernel
theorem dX8_misses_41 : decode cX8_misses 41 = .ok (.if_icmp .ne 36, 3) := by decide +kernel
theorem dX8_misses_44 : decode cX8_misses 44 = .ok (.aload_n 0, 1) := by decide +kernel
theorem dX8_misses_45 : decode cX8_misses 45 = .ok (.iload_n 1, 1) := by decide +kernel
theorem dX8_misses_46 : decode cX8_misses 46 = .ok (.invokevirtual 140, 3) := by decide +kernel
theorem dX8_misses_49 : decode cX8_misses 49 = .ok (.ifCond .eq 28, 3) := by decide +kernel
theorem dX8_misses_52 : decode cX8_misses 52 = .ok (.aload_n 0, 1) := by decide +kernel
theorem dX8_misses_53 : decode cX8_misses 53 = .ok (.iload 4, 2) := by decide +kernel
theorem dX8_misses_55 : decode cX8_misses 55 = .ok (.iload_n 2, 1) := by decide +kernel
theorem dX8_misses_56 : decode cX8_misses 56 = .ok (.invokevirtual 144, 3) := by decide +kernel
theorem dX8_misses_59 : decode cX8_misses 59 = .ok (.ifCond .eq 18, 3) := by decide +kernel
theorem dX8_misses_62 : decode cX8_misses 62 = .ok (.aload_n 0, 1) := by decide +kernel
theorem dX8_misses_63 : decode cX8_misses 63 = .ok (.iload_n 1, 1) := by decide +kernel
theorem dX8_misses_64 : decode cX8_misses 64 = .ok (.iload 4, 2) := by decide +kernel
theorem dX8_misses_66 : decode cX8_misses 66 = .ok (.iload_n 2, 1) := by decide +kernel
theorem dX8_misses_67 : decode cX8_misses 67 = .ok (.invokevirtual 147, 3) := by decide +kernel
theorem dX8_misses_70 : decode cX8_misses 70 = .ok (.ifCond .eq 7, 3) := by decide +kernel
theorem dX8_misses_73 : decode cX8_misses 73 = .ok (.iconst 1, 1) := by decide +kernel
theorem dX8_misses_74 : decode cX8_misses 74 = .ok (.goto 4, 3) := by decide +kernel
theorem dX8_misses_77 : decode cX8_misses 77 = .ok (.iconst 0, 1) := by decide +kernel
theorem dX8_misses_78 : decode cX8_misses 78 = .ok (.istore 5, 2) := by decide +kernel
theorem dX8_misses_80 : decode cX8_misses 80 = .ok (.iload_n 3, 1) := by decide +kernel
theorem dX8_misses_81 : decode cX8_misses 81 = .ok (.iload 5, 2) := by decide +kernel
theorem dX8_misses_83 : decode cX8_misses 83 = .ok (.ifCond .eq 10, 3) := by decide +kernel
theorem dX8_misses_86 : decode cX8_misses 86 = .ok (.iconst 1, 1) := by decide +kernel
theorem dX8_misses_87 : decode cX8_misses 87 = .ok (.iload 4, 2) := by decide +kernel
theorem dX8_misses_89 : decode cX8_misses 89 = .ok (.ishl, 1) := by decide +kernel
theorem dX8_misses_90 : decode cX8_misses 90 = .ok (.goto 4, 3) := by decide +kernel
theorem dX8_misses_93 : decode cX8_misses 93 = .ok (.iconst 0, 1) := by decide +kernel
theorem dX8_misses_94 : decode cX8_misses 94 = .ok (.ior, 1) := by decide +kernel
theorem dX8_misses_95 : decode cX8_misses 95 = .ok (.istore_n 3, 1) := by decide +kernel
theorem dX8_misses_96 : decode cX8_misses 96 = .ok (.iinc 4 1, 3) := by decide +kernel
theorem dX8_misses_99 : decode cX8_misses 99 = .ok (.goto (-94), 3) := by decide +kernel
theorem dX8_misses_102 : decode cX8_misses 102 = .ok (.iload_n 3, 1) := by decide +kernel
theorem dX8_misses_103 : decode cX8_misses 103 = .ok (.ireturn, 1) := by decide +kernel
theorem dX8_atHome_0 : decode cX8_atHome 0 = .ok (.iconst 0, 1) := by decide +kernel
theorem dX8_atHome_1 : decode cX8_atHome 1 = .ok (.istore_n 2, 1) := by decide +kernel
theorem dX8_atHome_2 : decode cX8_atHome 2 = .ok (.iconst 0, 1) := by decide +kernel
theorem dX8_atHome_3 : decode cX8_atHome 3 = .ok (.istore_n 3, 1) := by decide +kernel
theorem dX8_atHome_4 : decode cX8_atHome 4 = .ok (.iload_n 3, 1) := by decide +kernel
theorem dX8_atHome_5 : decode cX8_atHome 5 = .ok (.aload_n 0, 1) := by decide +kernel
theorem dX8_atHome_6 : decode cX8_atHome 6 = .ok (.getfield 72, 3) := by decide +kernel
theorem dX8_atHome_9 : decode cX8_atHome 9 = .ok (.if_icmp .ge 29, 3) := by decide +kernel
theorem dX8_atHome_12 : decode cX8_atHome 12 = .ok (.iload_n 2, 1) := by decide +kernel
theorem dX8_atHome_13 : decode cX8_atHome 13 = .ok (.aload_n 0, 1) := by decide +kernel
theorem dX8_atHome_14 : decode cX8_atHome 14 = .ok (.getfield 17, 3) := by decide +kernel
theorem dX8_atHome_17 : decode cX8_atHome 17 = .ok (.iload_n 3, 1) := by decide +kernel
theorem dX8_atHome_18 : decode cX8_atHome 18 = .ok (.iaload, 1) := by decide +kernel
theorem dX8_atHome_19 : decode cX8_atHome 19 = .ok (.iload_n 1, 1) := by decide +kernel
theorem dX8_atHome_20 : decode cX8_atHome 20 = .ok (.if_icmp .ne 9, 3) := by decide +kernel
theorem dX8_atHome_23 : decode cX8_atHome 23 = .ok (.iconst 1, 1) := by decide +kernel
theorem dX8_atHome_24 : decode cX8_atHome 24 = .ok (.iload_n 3, 1) := by decide +kernel
theorem dX8_atHome_25 : decode cX8_atHome 25 = .ok (.ishl, 1) := by decide +kernel
theorem dX8_atHome_26 : decode cX8_atHome 26 = .ok (.goto 4, 3) := by decide +kernel
theorem dX8_atHome_29 : decode cX8_atHome 29 = .ok (.iconst 0, 1) := by decide +kernel
theorem dX8_atHome_30 : decode cX8_atHome 30 = .ok (.ior, 1) := by decide +kernel
theorem dX8_atHome_31 : decode cX8_atHome 31 = .ok (.istore_n 2, 1) := by decide +kernel
theorem dX8_atHome_32 : decode cX8_atHome 32 = .ok (.iinc 3 1, 3) := by decide +kernel
theorem dX8_atHome_35 : decode cX8_atHome 35 = .ok (.goto (-31), 3) := by decide +kernel
theorem dX8_atHome_38 : decode cX8_atHome 38 = .ok (.iload_n 2, 1) := by decide +kernel
theorem dX8_atHome_39 : decode cX8_atHome 39 = .ok (.ireturn, 1) := by decide +kernel
theorem dX8_counted_0 : decode cX8_counted 0 = .ok (.aload_n 0, 1) := by decide +kernel
theorem dX8_counted_1 : decode cX8_counted 1 = .ok (.getfield 128, 3) := by decide +kernel
theorem dX8_counted_4 : decode cX8_counted 4 = .ok (.ifCond .ne 5, 3) := by decide +kernel
theorem dX8_counted_7 : decode cX8_counted 7 = .ok (.iload_n 1, 1) := by decide +kernel
theorem dX8_counted_8 : decode cX8_counted 8 = .ok (.ireturn, 1) := by decide +kernel
theorem dX8_counted_9 : decode cX8_counted 9 = .ok (.aload_n 0, 1) := by decide +kernel
theorem dX8_counted_10 : decode cX8_counted 10 = .ok (.getfield 128, 3) := by decide +kernel
theorem dX8_counted_13 : decode cX8_counted 13 = .ok (.iconst 1, 1) := by decide +kernel
theorem dX8_counted_14 : decode cX8_counted 14 = .ok (.if_icmp .ne 8, 3) := by decide +kernel
theorem dX8_counted_17 : decode cX8_counted 17 = .ok (.iload_n 2, 1) := by decide +kernel
theorem dX8_counted_18 : decode cX8_counted 18 = .ok (.invokestatic 151, 3) := by decide +kernel
theorem dX8_counted_21 : decode cX8_counted 21 = .ok (.ireturn, 1) := by decide +kernel
theorem dX8_counted_22 : decode cX8_counted 22 = .ok (.iconst 0, 1) := by decide +kernel
theorem dX8_counted_23 : decode cX8_counted 23 = .ok (.istore_n 3, 1) := by decide +kernel
theorem dX8_counted_24 : decode cX8_counted 24 = .ok (.iconst 0, 1) := by decide +kernel
theorem dX8_counted_25 : decode cX8_counted 25 = .ok (.istore 4, 2) := by decide +kernel
theorem dX8_counted_27 : decode cX8_counted 27 = .ok (.iload 4, 2) := by decide +kernel
theorem dX8_counted_29 : decode cX8_counted 29 = .ok (.aload_n 0, 1) := by decide +kernel
theorem dX8_counted_30 : decode cX8_counted 30 = .ok (.getfield 72, 3) := by decide +kernel
theorem dX8_counted_33 : decode cX8_counted 33 = .ok (.if_icmp .ge 34, 3) := by decide +kernel
theorem dX8_counted_36 : decode cX8_counted 36 = .ok (.iload_n 3, 1) := by decide +kernel
theorem dX8_counted_37 : decode cX8_counted 37 = .ok (.iload_n 2, 1) := by decide +kernel
theorem dX8_counted_38 : decode cX8_counted 38 = .ok (.iload 4, 2) := by decide +kernel
theorem dX8_counted_40 : decode cX8_counted 40 = .ok (.invokestatic 101, 3) := by decide +kernel
theorem dX8_counted_43 : decode cX8_counted 43 = .ok (.ifCond .eq 15, 3) := by decide +kernel
theorem dX8_counted_46 : decode cX8_counted 46 = .ok (.iconst 1, 1) := by decide +kernel
theorem dX8_counted_47 : decode cX8_counted 47 = .ok (.aload_n 0, 1) := by decide +kernel
theorem dX8_counted_48 : decode cX8_counted 48 = .ok (.getfield 20, 3) := by decide +kernel
theorem dX8_counted_51 : decode cX8_counted 51 = .ok (.iload 4, 2) := by decide +kernel
theorem dX8_counted_53 : decode cX8_counted 53 = .ok (.iaload, 1) := by decide +kernel
theorem dX8_counted_54 : decode cX8_counted 54 = .ok (.ishl, 1) := by decide +kernel
theorem dX8_counted_55 : decode cX8_counted 55 = .ok (.goto 4, 3) := by decide +kernel
theorem dX8_counted_58 : decode cX8_counted 58 = .ok (.iconst 0, 1) := by decide +kernel
theorem dX8_counted_59 : decode cX8_counted 59 = .ok (.ior, 1) := by decide +kernel
theorem dX8_counted_60 : decode cX8_counted 60 = .ok (.istore_n 3, 1) := by decide +kernel
theorem dX8_counted_61 : decode cX8_counted 61 = .ok (.iinc 4 1, 3) := by decide +kernel
theorem dX8_counted_64 : decode cX8_counted 64 = .ok (.goto (-37), 3) := by decide +kernel
theorem dX8_counted_67 : decode cX8_counted 67 = .ok (.iload_n 3, 1) := by decide +kernel
theorem dX8_counted_68 : decode cX8_counted 68 = .ok (.invokestatic 151, 3) := by decide +kernel
theorem dX8_counted_71 : decode cX8_counted 71 = .ok (.ireturn, 1) := by decide +kernel
theorem dX8_count_0 : decode cX8_count 0 = .ok (.iconst 0, 1) := by decide +kernel
theorem dX8_count_1 : decode cX8_count 1 = .ok (.istore_n 3, 1) := by decide +kernel
theorem dX8_count_2 : decode cX8_count 2 = .ok (.iconst 0, 1) := by decide +kernel
theorem dX8_count_3 : decode cX8_count 3 = .ok (.istore 4, 2) := by decide +kernel
theorem dX8_count_5 : decode cX8_count 5 = .ok (.iconst 0, 1) := by decide +kernel
theorem dX8_count_6 : decode cX8_count 6 = .ok (.istore 5, 2) := by decide +kernel
theorem dX8_count_8 : decode cX8_count 8 = .ok (.iload 5, 2) := by decide +kernel
theorem dX8_count_10 : decode cX8_count 10 = .ok (.aload_n 0, 1) := by decide +kernel
theorem dX8_count_11 : decode cX8_count 11 = .ok (.getfield 72, 3) := by decide +kernel
theorem dX8_count_14 : decode cX8_count 14 = .ok (.if_icmp .ge 60, 3) := by decide +kernel
theorem dX8_count_17 : decode cX8_count 17 = .ok (.aload_n 0, 1) := by decide +kernel
theorem dX8_count_18 : decode cX8_count 18 = .ok (.getfield 17, 3) := by decide +kernel
theorem dX8_count_21 : decode cX8_count 21 = .ok (.iload 5, 2) := by decide +kernel
theorem dX8_count_23 : decode cX8_count 23 = .ok (.iaload, 1) := by decide +kernel
theorem dX8_count_24 : decode cX8_count 24 = .ok (.iload_n 1, 1) := by decide +kernel
theorem dX8_count_25 : decode cX8_count 25 = .ok (.if_icmp .ne 43, 3) := by decide +kernel
theorem dX8_count_28 : decode cX8_count 28 = .ok (.iload_n 2, 1) := by decide +kernel
theorem dX8_count_29 : decode cX8_count 29 = .ok (.iload 5, 2) := by decide +kernel
theorem dX8_count_31 : decode cX8_count 31 = .ok (.invokestatic 101, 3) := by decide +kernel
theorem dX8_count_34 : decode cX8_count 34 = .ok (.ifCond .ne 34, 3) := by decide +kernel
theorem dX8_count_37 : decode cX8_count 37 = .ok (.iload_n 3, 1) := by decide +kernel
theorem dX8_count_38 : decode cX8_count 38 = .ok (.aload_n 0, 1) := by decide +kernel
theorem dX8_count_39 : decode cX8_count 39 = .ok (.iload 5, 2) := by decide +kernel
theorem dX8_count_41 : decode cX8_count 41 = .ok (.aload_n 0, 1) := by decide +kernel
theorem dX8_count_42 : decode cX8_count 42 = .ok (.getfield 131, 3) := by decide +kernel
theorem dX8_count_45 : decode cX8_count 45 = .ok (.invokevirtual 154, 3) := by decide +kernel
theorem dX8_count_48 : decode cX8_count 48 = .ok (.invokestatic 151, 3) := by decide +kernel
theorem dX8_count_51 : decode cX8_count 51 = .ok (.iadd, 1) := by decide +kernel
theorem dX8_count_52 : decode cX8_count 52 = .ok (.istore_n 3, 1) := by decide +kernel
theorem dX8_count_53 : decode cX8_count 53 = .ok (.iload 4, 2) := by decide +kernel
theorem dX8_count_55 : decode cX8_count 55 = .ok (.aload_n 0, 1) := by decide +kernel
theorem dX8_count_56 : decode cX8_count 56 = .ok (.iload 5, 2) := by decide +kernel
theorem dX8_count_58 : decode cX8_count 58 = .ok (.aload_n 0, 1) := by decide +kernel
theorem dX8_count_59 : decode cX8_count 59 = .ok (.getfield 131, 3) := by decide +kernel
theorem dX8_count_62 : decode cX8_count 62 = .ok (.invokevirtual 154, 3) := by decide +kernel
theorem dX8_count_65 : decode cX8_count 65 = .ok (.ior, 1) := by decide +kernel
theorem dX8_count_66 : decode cX8_count 66 = .ok (.istore 4, 2) := by decide +kernel
theorem dX8_count_68 : decode cX8_count 68 = .ok (.iinc 5 1, 3) := by decide +kernel
theorem dX8_count_71 : decode cX8_count 71 = .ok (.goto (-63), 3) := by decide +kernel
theorem dX8_count_74 : decode cX8_count 74 = .ok (.aload_n 0, 1) := by decide +kernel
theorem dX8_count_75 : decode cX8_count 75 = .ok (.iload_n 3, 1) := by decide +kernel
theorem dX8_count_76 : decode cX8_count 76 = .ok (.iload 4, 2) := by decide +kernel
theorem dX8_count_78 : decode cX8_count 78 = .ok (.invokevirtual 158, 3) := by decide +kernel
theorem dX8_count_81 : decode cX8_count 81 = .ok (.ireturn, 1) := by decide +kernel
theorem dX8_missed_0 : decode cX8_missed 0 = .ok (.iconst 0, 1) := by decide +kernel
theorem dX8_missed_1 : decode cX8_missed 1 = .ok (.istore_n 2, 1) := by decide +kernel
theorem dX8_missed_2 : decode cX8_missed 2 = .ok (.iconst 0, 1) := by decide +kernel
theorem dX8_missed_3 : decode cX8_missed 3 = .ok (.istore_n 3, 1) := by decide +kernel
theorem dX8_missed_4 : decode cX8_missed 4 = .ok (.iload_n 3, 1) := by decide +kernel
theorem dX8_missed_5 : decode cX8_missed 5 = .ok (.aload_n 0, 1) := by decide +kernel
theorem dX8_missed_6 : decode cX8_missed 6 = .ok (.getfield 72, 3) := by decide +kernel
theorem dX8_missed_9 : decode cX8_missed 9 = .ok (.if_icmp .ge 18, 3) := by decide +kernel
theorem dX8_missed_12 : decode cX8_missed 12 = .ok (.iload_n 2, 1) := by decide +kernel
theorem dX8_missed_13 : decode cX8_missed 13 = .ok (.aload_n 0, 1) := by decide +kernel
theorem dX8_missed_14 : decode cX8_missed 14 = .ok (.iload_n 3, 1) := by decide +kernel
theorem dX8_missed_15 : decode cX8_missed 15 = .ok (.iload_n 1, 1) := by decide +kernel
theorem dX8_missed_16 : decode cX8_missed 16 = .ok (.invokevirtual 154, 3) := by decide +kernel
theorem dX8_missed_19 : decode cX8_missed 19 = .ok (.ior, 1) := by decide +kernel
theorem dX8_missed_20 : decode cX8_missed 20 = .ok (.istore_n 2, 1) := by decide +kernel
theorem dX8_missed_21 : decode cX8_missed 21 = .ok (.iinc 3 1, 3) := by decide +kernel
theorem dX8_missed_24 : decode cX8_missed 24 = .ok (.goto (-20), 3) := by decide +kernel
theorem dX8_missed_27 : decode cX8_missed 27 = .ok (.iload_n 2, 1) := by decide +kernel
theorem dX8_missed_28 : decode cX8_missed 28 = .ok (.ireturn, 1) := by decide +kernel
theorem dX8_about_0 : decode cX8_about 0 = .ok (.aload_n 0, 1) := by decide +kernel
theorem dX8_about_1 : decode cX8_about 1 = .ok (.iconst 0, 1) := by decide +kernel
theorem dX8_about_2 : decode cX8_about 2 = .ok (.putfield 69, 3) := by decide +kernel
theorem dX8_about_5 : decode cX8_about 5 = .ok (.iconst 0, 1) := by decide +kernel
theorem dX8_about_6 : decode cX8_about 6 = .ok (.istore_n 2, 1) := by decide +kernel
theorem dX8_about_7 : decode cX8_about 7 = .ok (.iconst 0, 1) := by decide +kernel
theorem dX8_about_8 : decode cX8_about 8 = .ok (.istore_n 3, 1) := by decide +kernel
theorem dX8_about_9 : decode cX8_about 9 = .ok (.iconst 0, 1) := by decide +kernel
theorem dX8_about_10 : decode cX8_about 10 = .ok (.istore 4, 2) := by decide +kernel
theorem dX8_about_12 : decode cX8_about 12 = .ok (.iload 4, 2) := by decide +kernel
theorem dX8_about_14 : decode cX8_about 14 = .ok (.aload_n 0, 1) := by decide +kernel
theorem dX8_about_15 : decode cX8_about 15 = .ok (.getfield 72, 3) := by decide +kernel
theorem dX8_about_18 : decode cX8_about 18 = .ok (.if_icmp .ge 45, 3) := by decide +kernel
theorem dX8_about_21 : decode cX8_about 21 = .ok (.iload_n 2, 1) := by decide +kernel
theorem dX8_about_22 : decode cX8_about 22 = .ok (.aload_n 0, 1) := by decide +kernel
theorem dX8_about_23 : decode cX8_about 23 = .ok (.getfield 35, 3) := by decide +kernel
theorem dX8_about_26 : decode cX8_about 26 = .ok (.iload 4, 2) := by decide +kernel
theorem dX8_about_28 : decode cX8_about 28 = .ok (.iaload, 1) := by decide +kernel
theorem dX8_about_29 : decode cX8_about 29 = .ok (.bipush (-9), 2) := by decide +kernel
theorem dX8_about_31 : decode cX8_about 31 = .ok (.if_icmp .ne 10, 3) := by decide +kernel
theorem dX8_about_34 : decode cX8_about 34 = .ok (.iconst 1, 1) := by decide +kernel
theorem dX8_about_35 : decode cX8_about 35 = .ok (.iload 4, 2) := by decide +kernel
theorem dX8_about_37 : decode cX8_about 37 = .ok (.ishl, 1) := by decide +kernel
theorem dX8_about_38 : decode cX8_about 38 = .ok (.goto 4, 3) := by decide +kernel
theorem dX8_about_41 : decode cX8_about 41 = .ok (.iconst 0, 1) := by decide +kernel
theorem dX8_about_42 : decode cX8_about 42 = .ok (.ior, 1) := by decide +kernel
theorem dX8_about_43 : decode cX8_about 43 = .ok (.istore_n 2, 1) := by decide +kernel
theorem dX8_about_44 : decode cX8_about 44 = .ok (.iload_n 3, 1) := by decide +kernel
theorem dX8_about_45 : decode cX8_about 45 = .ok (.aload_n 0, 1) := by decide +kernel
theorem dX8_about_46 : decode cX8_about 46 = .ok (.getfield 26, 3) := by decide +kernel
theorem dX8_about_49 : decode cX8_about 49 = .ok (.iload 4, 2) := by decide +kernel
theorem dX8_about_51 : decode cX8_about 51 = .ok (.iaload, 1) := by decide +kernel
theorem dX8_about_52 : decode cX8_about 52 = .ok (.invokestatic 151, 3) := by decide +kernel
theorem dX8_about_55 : decode cX8_about 55 = .ok (.iadd, 1) := by decide +kernel
theorem dX8_about_56 : decode cX8_about 56 = .ok (.istore_n 3, 1) := by decide +kernel
theorem dX8_about_57 : decode cX8_about 57 = .ok (.iinc 4 1, 3) := by decide +kernel
theorem dX8_about_60 : decode cX8_about 60 = .ok (.goto (-48), 3) := by decide +kernel
theorem dX8_about_63 : decode cX8_about 63 = .ok (.iload_n 1, 1) := by decide +kernel
theorem dX8_about_64 : decode cX8_about 64 = .ok (.tableswitch 95 0 8 #[52, 57, 62, 67, 72, 74, 83, 85, 90], 52) := by decide +kernel
theorem dX8_about_116 : decode cX8_about 116 = .ok (.aload_n 0, 1) := by decide +kernel
theorem dX8_about_117 : decode cX8_about 117 = .ok (.getfield 13, 3) := by decide +kernel
theorem dX8_about_120 : decode cX8_about 120 = .ok (.ireturn, 1) := by decide +kernel
theorem dX8_about_121 : decode cX8_about 121 = .ok (.aload_n 0, 1) := by decide +kernel
theorem dX8_about_122 : decode cX8_about 122 = .ok (.getfield 72, 3) := by decide +kernel
theorem dX8_about_125 : decode cX8_about 125 = .ok (.ireturn, 1) := by decide +kernel
theorem dX8_about_126 : decode cX8_about 126 = .ok (.aload_n 0, 1) := by decide +kernel
theorem dX8_about_127 : decode cX8_about 127 = .ok (.getfield 128, 3) := by decide +kernel
theorem dX8_about_130 : decode cX8_about 130 = .ok (.ireturn, 1) := by decide +kernel
theorem dX8_about_131 : decode cX8_about 131 = .ok (.aload_n 0, 1) := by decide +kernel
theorem dX8_about_132 : decode cX8_about 132 = .ok (.getfield 131, 3) := by decide +kernel
theorem dX8_about_135 : decode cX8_about 135 = .ok (.ireturn, 1) := by decide +kernel
theorem dX8_about_136 : decode cX8_about 136 = .ok (.iload_n 2, 1) := by decide +kernel
theorem dX8_about_137 : decode cX8_about 137 = .ok (.ireturn, 1) := by decide +kernel
theorem dX8_about_138 : decode cX8_about 138 = .ok (.aload_n 0, 1) := by decide +kernel
theorem dX8_about_139 : decode cX8_about 139 = .ok (.aload_n 0, 1) := by decide +kernel
theorem dX8_about_140 : decode cX8_about 140 = .ok (.getfield 131, 3) := by decide +kernel
theorem dX8_about_143 : decode cX8_about 143 = .ok (.invokevirtual 161, 3) := by decide +kernel
theorem dX8_about_146 : decode cX8_about 146 = .ok (.ireturn, 1) := by decide +kernel
theorem dX8_about_147 : decode cX8_about 147 = .ok (.iload_n 3, 1) := by decide +kernel
theorem dX8_about_148 : decode cX8_about 148 = .ok (.ireturn, 1) := by decide +kernel
theorem dX8_about_149 : decode cX8_about 149 = .ok (.aload_n 0, 1) := by decide +kernel
theorem dX8_about_150 : decode cX8_about 150 = .ok (.getfield 134, 3) := by decide +kernel
theorem dX8_about_153 : decode cX8_about 153 = .ok (.ireturn, 1) := by decide +kernel
theorem dX8_about_154 : decode cX8_about 154 = .ok (.aload_n 0, 1) := by decide +kernel
theorem dX8_about_155 : decode cX8_about 155 = .ok (.getfield 81, 3) := by decide +kernel
theorem dX8_about_158 : decode cX8_about 158 = .ok (.ireturn, 1) := by decide +kernel
theorem dX8_about_159 : decode cX8_about 159 = .ok (.bipush (-2), 2) := by decide +kernel
theorem dX8_about_161 : decode cX8_about 161 = .ok (.ireturn, 1) := by decide +kernel
theorem dX8_person_0 : decode cX8_person 0 = .ok (.aload_n 0, 1) := by decide +kernel
theorem dX8_person_1 : decode cX8_person 1 = .ok (.iconst 0, 1) := by decide +kernel
theorem dX8_person_2 : decode cX8_person 2 = .ok (.putfield 69, 3) := by decide +kernel
theorem dX8_person_5 : decode cX8_person 5 = .ok (.aload_n 0, 1) := by decide +kernel
theorem dX8_person_6 : decode cX8_person 6 = .ok (.iload_n 1, 1) := by decide +kernel
theorem dX8_person_7 : decode cX8_person 7 = .ok (.invokevirtual 164, 3) := by decide +kernel
theorem dX8_person_10 : decode cX8_person 10 = .ok (.ifCond .eq 5, 3) := by decide +kernel
theorem dX8_person_13 : decode cX8_person 13 = .ok (.iconst (-1), 1) := by decide +kernel
theorem dX8_person_14 : decode cX8_person 14 = .ok (.ireturn, 1) := by decide +kernel
theorem dX8_person_15 : decode cX8_person 15 = .ok (.iload_n 2, 1) := by decide +kernel
theorem dX8_person_16 : decode cX8_person 16 = .ok (.tableswitch 107 0 7 #[48, 55, 62, 69, 76, 83, 90, 97], 48) := by decide +kernel
theorem dX8_person_64 : decode cX8_person 64 = .ok (.aload_n 0, 1) := by decide +kernel
theorem dX8_person_65 : decode cX8_person 65 = .ok (.getfield 17, 3) := by decide +kernel
theorem dX8_person_68 : decode cX8_person 68 = .ok (.iload_n 1, 1) := by decide +kernel
theorem dX8_person_69 : decode cX8_person 69 = .ok (.iaload, 1) := by decide +kernel
theorem dX8_person_70 : decode cX8_person 70 = .ok (.ireturn, 1) := by decide +kernel
theorem dX8_person_71 : decode cX8_person 71 = .ok (.aload_n 0, 1) := by decide +kernel
theorem dX8_person_72 : decode cX8_person 72 = .ok (.getfield 20, 3) := by decide +kernel
theorem dX8_person_75 : decode cX8_person 75 = .ok (.iload_n 1, 1) := by decide +kernel
theorem dX8_person_76 : decode cX8_person 76 = .ok (.iaload, 1) := by decide +kernel
theorem dX8_person_77 : decode cX8_person 77 = .ok (.ireturn, 1) := by decide +kernel
theorem dX8_person_78 : decode cX8_person 78 = .ok (.aload_n 0, 1) := by decide +kernel
theorem dX8_person_79 : decode cX8_person 79 = .ok (.getfield 23, 3) := by decide +kernel
theorem dX8_person_82 : decode cX8_person 82 = .ok (.iload_n 1, 1) := by decide +kernel
theorem dX8_person_83 : decode cX8_person 83 = .ok (.iaload, 1) := by decide +kernel
theorem dX8_person_84 : decode cX8_person 84 = .ok (.ireturn, 1) := by decide +kernel
theorem dX8_person_85 : decode cX8_person 85 = .ok (.aload_n 0, 1) := by decide +kernel
theorem dX8_person_86 : decode cX8_person 86 = .ok (.getfield 29, 3) := by decide +kernel
theorem dX8_person_89 : decode cX8_person 89 = .ok (.iload_n 1, 1) := by decide +kernel
theorem dX8_person_90 : decode cX8_person 90 = .ok (.iaload, 1) := by decide +kernel
theorem dX8_person_91 : decode cX8_person 91 = .ok (.ireturn, 1) := by decide +kernel
theorem dX8_person_92 : decode cX8_person 92 = .ok (.aload_n 0, 1) := by decide +kernel
theorem dX8_person_93 : decode cX8_person 93 = .ok (.getfield 32, 3) := by decide +kernel
theorem dX8_person_96 : decode cX8_person 96 = .ok (.iload_n 1, 1) := by decide +kernel
theorem dX8_person_97 : decode cX8_person 97 = .ok (.iaload, 1) := by decide +kernel
theorem dX8_person_98 : decode cX8_person 98 = .ok (.ireturn, 1) := by decide +kernel
theorem dX8_person_99 : decode cX8_person 99 = .ok (.aload_n 0, 1) := by decide +kernel
theorem dX8_person_100 : decode cX8_person 100 = .ok (.getfield 35, 3) := by decide +kernel
theorem dX8_person_103 : decode cX8_person 103 = .ok (.iload_n 1, 1) := by decide +kernel
theorem dX8_person_104 : decode cX8_person 104 = .ok (.iaload, 1) := by decide +kernel
theorem dX8_person_105 : decode cX8_person 105 = .ok (.ireturn, 1) := by decide +kernel
theorem dX8_person_106 : decode cX8_person 106 = .ok (.aload_n 0, 1) := by decide +kernel
theorem dX8_person_107 : decode cX8_person 107 = .ok (.getfield 26, 3) := by decide +kernel
theorem dX8_person_110 : decode cX8_person 110 = .ok (.iload_n 1, 1) := by decide +kernel
theorem dX8_person_111 : decode cX8_person 111 = .ok (.iaload, 1) := by decide +kernel
theorem dX8_person_112 : decode cX8_person 112 = .ok (.ireturn, 1) := by decide +kernel
theorem dX8_person_113 : decode cX8_person 113 = .ok (.aload_n 0, 1) := by decide +kernel
theorem dX8_person_114 : decode cX8_person 114 = .ok (.iload_n 1, 1) := by decide +kernel
theorem dX8_person_115 : decode cX8_person 115 = .ok (.aload_n 0, 1) := by decide +kernel
theorem dX8_person_116 : decode cX8_person 116 = .ok (.getfield 131, 3) := by decide +kernel
theorem dX8_person_119 : decode cX8_person 119 = .ok (.invokevirtual 154, 3) := by decide +kernel
theorem dX8_person_122 : decode cX8_person 122 = .ok (.ireturn, 1) := by decide +kernel
theorem dX8_person_123 : decode cX8_person 123 = .ok (.bipush (-2), 2) := by decide +kernel
theorem dX8_person_125 : decode cX8_person 125 = .ok (.ireturn, 1) := by decide +kernel
theorem dX8_town_0 : decode cX8_town 0 = .ok (.aload_n 0, 1) := by decide +kernel
theorem dX8_town_1 : decode cX8_town 1 = .ok (.iconst 0, 1) := by decide +kernel
theorem dX8_town_2 : decode cX8_town 2 = .ok (.putfield 69, 3) := by decide +kernel
theorem dX8_town_5 : decode cX8_town 5 = .ok (.aload_n 0, 1) := by decide +kernel
theorem dX8_town_6 : decode cX8_town 6 = .ok (.iload_n 1, 1) := by decide +kernel
theorem dX8_town_7 : decode cX8_town 7 = .ok (.invokevirtual 167, 3) := by decide +kernel
theorem dX8_town_10 : decode cX8_town 10 = .ok (.ifCond .eq 5, 3) := by decide +kernel
theorem dX8_town_13 : decode cX8_town 13 = .ok (.iconst (-1), 1) := by decide +kernel
theorem dX8_town_14 : decode cX8_town 14 = .ok (.ireturn, 1) := by decide +kernel
theorem dX8_town_15 : decode cX8_town 15 = .ok (.iconst 0, 1) := by decide +kernel
theorem dX8_town_16 : decode cX8_town 16 = .ok (.istore_n 3, 1) := by decide +kernel
theorem dX8_town_17 : decode cX8_town 17 = .ok (.iconst 0, 1) := by decide +kernel
theorem dX8_town_18 : decode cX8_town 18 = .ok (.istore 4, 2) := by decide +kernel
theorem dX8_town_20 : decode cX8_town 20 = .ok (.iconst 0, 1) := by decide +kernel
theorem dX8_town_21 : decode cX8_town 21 = .ok (.istore 5, 2) := by decide +kernel
theorem dX8_town_23 : decode cX8_town 23 = .ok (.iload 5, 2) := by decide +kernel
theorem dX8_town_25 : decode cX8_town 25 = .ok (.aload_n 0, 1) := by decide +kernel
theorem dX8_town_26 : decode cX8_town 26 = .ok (.getfield 72, 3) := by decide +kernel
theorem dX8_town_29 : decode cX8_town 29 = .ok (.if_icmp .ge 77, 3) := by decide +kernel
theorem dX8_town_32 : decode cX8_town 32 = .ok (.iload_n 3, 1) := by decide +kernel
theorem dX8_town_33 : decode cX8_town 33 = .ok (.aload_n 0, 1) := by decide +kernel
theorem dX8_town_34 : decode cX8_town 34 = .ok (.getfield 35, 3) := by decide +kernel
theorem dX8_town_37 : decode cX8_town 37 = .ok (.iload 5, 2) := by decide +kernel
theorem dX8_town_39 : decode cX8_town 39 = .ok (.iaload, 1) := by decide +kernel
theorem dX8_town_40 : decode cX8_town 40 = .ok (.bipush (-9), 2) := by decide +kernel
theorem dX8_town_42 : decode cX8_town 42 = .ok (.if_icmp .ne 18, 3) := by decide +kernel
theorem dX8_town_45 : decode cX8_town 45 = .ok (.aload_n 0, 1) := by decide +kernel
theorem dX8_town_46 : decode cX8_town 46 = .ok (.getfield 29, 3) := by decide +kernel
theorem dX8_town_49 : decode cX8_town 49 = .ok (.iload 5, 2) := by decide +kernel
theorem dX8_town_51 : decode cX8_town 51 = .ok (.iaload, 1) := by decide +kernel
theorem dX8_town_52 : decode cX8_town 52 = .ok (.iload_n 1, 1) := by decide +kernel
theorem dX8_town_53 : decode cX8_town 53 = .ok (.if_icmp .ne 7, 3) := by decide +kernel
theorem dX8_town_56 : decode cX8_town 56 = .ok (.iconst 1, 1) := by decide +kernel
theorem dX8_town_57 : decode cX8_town 57 = .ok (.goto 4, 3) := by decide +kernel
theorem dX8_town_60 : decode cX8_town 60 = .ok (.iconst 0, 1) := by decide +kernel
theorem dX8_town_61 : decode cX8_town 61 = .ok (.iadd, 1) := by decide +kernel
theorem dX8_town_62 : decode cX8_town 62 = .ok (.istore_n 3, 1) := by decide +kernel
theorem dX8_town_63 : decode cX8_town 63 = .ok (.iload 4, 2) := by decide +kernel
theorem dX8_town_65 : decode cX8_town 65 = .ok (.aload_n 0, 1) := by decide +kernel
theorem dX8_town_66 : decode cX8_town 66 = .ok (.getfield 17, 3) := by decide +kernel
theorem dX8_town_69 : decode cX8_town 69 = .ok (.iload 5, 2) := by decide +kernel
theorem dX8_town_71 : decode cX8_town 71 = .ok (.iaload, 1) := by decide +kernel
theorem dX8_town_72 : decode cX8_town 72 = .ok (.iload_n 1, 1) := by decide +kernel
theorem dX8_town_73 : decode cX8_town 73 = .ok (.if_icmp .ne 23, 3) := by decide +kernel
theorem dX8_town_76 : decode cX8_town 76 = .ok (.aload_n 0, 1) := by decide +kernel
theorem dX8_town_77 : decode cX8_town 77 = .ok (.iload 5, 2) := by decide +kernel
theorem dX8_town_79 : decode cX8_town 79 = .ok (.aload_n 0, 1) := by decide +kernel
theorem dX8_town_80 : decode cX8_town 80 = .ok (.getfield 131, 3) := by decide +kernel
theorem dX8_town_83 : decode cX8_town 83 = .ok (.invokevirtual 144, 3) := by decide +kernel
theorem dX8_town_86 : decode cX8_town 86 = .ok (.ifCond .eq 10, 3) := by decide +kernel
theorem dX8_town_89 : decode cX8_town 89 = .ok (.iconst 1, 1) := by decide +kernel
theorem dX8_town_90 : decode cX8_town 90 = .ok (.iload 5, 2) := by decide +kernel
theorem dX8_town_92 : decode cX8_town 92 = .ok (.ishl, 1) := by decide +kernel
theorem dX8_town_93 : decode cX8_town 93 = .ok (.goto 4, 3) := by decide +kernel
theorem dX8_town_96 : decode cX8_town 96 = .ok (.iconst 0, 1) := by decide +kernel
theorem dX8_town_97 : decode cX8_town 97 = .ok (.ior, 1) := by decide +kernel
theorem dX8_town_98 : decode cX8_town 98 = .ok (.istore 4, 2) := by decide +kernel
theorem dX8_town_100 : decode cX8_town 100 = .ok (.iinc 5 1, 3) := by decide +kernel
theorem dX8_town_103 : decode cX8_town 103 = .ok (.goto (-80), 3) := by decide +kernel
theorem dX8_town_106 : decode cX8_town 106 = .ok (.iload_n 2, 1) := by decide +kernel
theorem dX8_town_107 : decode cX8_town 107 = .ok (.tableswitch 84 0 5 #[37, 51, 53, 60, 66, 69], 37) := by decide +kernel
theorem dX8_town_144 : decode cX8_town 144 = .ok (.aload_n 0, 1) := by decide +kernel
theorem dX8_town_145 : decode cX8_town 145 = .ok (.iload_n 1, 1) := by decide +kernel
theorem dX8_town_146 : decode cX8_town 146 = .ok (.iconst 0, 1) := by decide +kernel
theorem dX8_town_147 : decode cX8_town 147 = .ok (.invokevirtual 170, 3) := by decide +kernel
theorem dX8_town_150 : decode cX8_town 150 = .ok (.aload_n 0, 1) := by decide +kernel
theorem dX8_town_151 : decode cX8_town 151 = .ok (.getfield 38, 3) := by decide +kernel
theorem dX8_town_154 : decode cX8_town 154 = .ok (.iload_n 1, 1) := by decide +kernel
theorem dX8_town_155 : decode cX8_town 155 = .ok (.iaload, 1) := by decide +kernel
theorem dX8_town_156 : decode cX8_town 156 = .ok (.iadd, 1) := by decide +kernel
theorem dX8_town_157 : decode cX8_town 157 = .ok (.ireturn, 1) := by decide +kernel
theorem dX8_town_158 : decode cX8_town 158 = .ok (.iload_n 3, 1) := by decide +kernel
theorem dX8_town_159 : decode cX8_town 159 = .ok (.ireturn, 1) := by decide +kernel
theorem dX8_town_160 : decode cX8_town 160 = .ok (.aload_n 0, 1) := by decide +kernel
theorem dX8_town_161 : decode cX8_town 161 = .ok (.getfield 38, 3) := by decide +kernel
theorem dX8_town_164 : decode cX8_town 164 = .ok (.iload_n 1, 1) := by decide +kernel
theorem dX8_town_165 : decode cX8_town 165 = .ok (.iaload, 1) := by decide +kernel
theorem dX8_town_166 : decode cX8_town 166 = .ok (.ireturn, 1) := by decide +kernel
theorem dX8_town_167 : decode cX8_town 167 = .ok (.aload_n 0, 1) := by decide +kernel
theorem dX8_town_168 : decode cX8_town 168 = .ok (.iload_n 1, 1) := by decide +kernel
theorem dX8_town_169 : decode cX8_town 169 = .ok (.invokevirtual 173, 3) := by decide +kernel
theorem dX8_town_172 : decode cX8_town 172 = .ok (.ireturn, 1) := by decide +kernel
theorem dX8_town_173 : decode cX8_town 173 = .ok (.iload 4, 2) := by decide +kernel
theorem dX8_town_175 : decode cX8_town 175 = .ok (.ireturn, 1) := by decide +kernel
theorem dX8_town_176 : decode cX8_town 176 = .ok (.aload_n 0, 1) := by decide +kernel
theorem dX8_town_177 : decode cX8_town 177 = .ok (.aload_n 0, 1) := by decide +kernel
theorem dX8_town_178 : decode cX8_town 178 = .ok (.getfield 131, 3) := by decide +kernel
theorem dX8_town_181 : decode cX8_town 181 = .ok (.invokevirtual 161, 3) := by decide +kernel
theorem dX8_town_184 : decode cX8_town 184 = .ok (.aload_n 0, 1) := by decide +kernel
theorem dX8_town_185 : decode cX8_town 185 = .ok (.iload_n 1, 1) := by decide +kernel
theorem dX8_town_186 : decode cX8_town 186 = .ok (.invokevirtual 173, 3) := by decide +kernel
theorem dX8_town_189 : decode cX8_town 189 = .ok (.iand, 1) := by decide +kernel
theorem dX8_town_190 : decode cX8_town 190 = .ok (.ireturn, 1) := by decide +kernel
theorem dX8_town_191 : decode cX8_town 191 = .ok (.bipush (-2), 2) := by decide +kernel
theorem dX8_town_193 : decode cX8_town 193 = .ok (.ireturn, 1) := by decide +kernel
theorem dX8_law_0 : decode cX8_law 0 = .ok (.aload_n 0, 1) := by decide +kernel
theorem dX8_law_1 : decode cX8_law 1 = .ok (.iconst 0, 1) := by decide +kernel
theorem dX8_law_2 : decode cX8_law 2 = .ok (.putfield 69, 3) := by decide +kernel
theorem dX8_law_5 : decode cX8_law 5 = .ok (.iload_n 1, 1) := by decide +kernel
theorem dX8_law_6 : decode cX8_law 6 = .ok (.i2l, 1) := by decide +kernel
theorem dX8_law_7 : decode cX8_law 7 = .ok (.lconst 0, 1) := by decide +kernel
theorem dX8_law_8 : decode cX8_law 8 = .ok (.ldc2_w 176, 3) := by decide +kernel
theorem dX8_law_11 : decode cX8_law 11 = .ok (.invokestatic 75, 3) := by decide +kernel
theorem dX8_law_14 : decode cX8_law 14 = .ok (.ifCond .ne 6, 3) := by decide +kernel
theorem dX8_law_17 : decode cX8_law 17 = .ok (.bipush (-2), 2) := by decide +kernel
theorem dX8_law_19 : decode cX8_law 19 = .ok (.ireturn, 1) := by decide +kernel
theorem dX8_law_20 : decode cX8_law 20 = .ok (.aload_n 0, 1) := by decide +kernel
theorem dX8_law_21 : decode cX8_law 21 = .ok (.getfield 128, 3) := by decide +kernel
theorem dX8_law_24 : decode cX8_law 24 = .ok (.istore_n 2, 1) := by decide +kernel
theorem dX8_law_25 : decode cX8_law 25 = .ok (.aload_n 0, 1) := by decide +kernel
theorem dX8_law_26 : decode cX8_law 26 = .ok (.iload_n 1, 1) := by decide +kernel
theorem dX8_law_27 : decode cX8_law 27 = .ok (.putfield 128, 3) := by decide +kernel
theorem dX8_law_30 : decode cX8_law 30 = .ok (.iload_n 2, 1) := by decide +kernel
theorem dX8_law_31 : decode cX8_law 31 = .ok (.ireturn, 1) := by decide +kernel
theorem dX8_layPage_0 : decode cX8_layPage 0 = .ok (.iconst 0, 1) := by decide +kernel
theorem dX8_layPage_1 : decode cX8_layPage 1 = .ok (.istore_n 3, 1) := by decide +kernel
theorem dX8_layPage_2 : decode cX8_layPage 2 = .ok (.iload_n 3, 1) := by decide +kernel
theorem dX8_layPage_3 : decode cX8_layPage 3 = .ok (.bipush 8, 2) := by decide +kernel
theorem dX8_layPage_5 : decode cX8_layPage 5 = .ok (.if_icmp .ge 48, 3) := by decide +kernel
theorem dX8_layPage_8 : decode cX8_layPage 8 = .ok (.aload_n 1, 1) := by decide +kernel
theorem dX8_layPage_9 : decode cX8_layPage 9 = .ok (.iload_n 2, 1) := by decide +kernel
theorem dX8_layPage_10 : decode cX8_layPage 10 = .ok (.iload_n 3, 1) := by decide +kernel
theorem dX8_layPage_11 : decode cX8_layPage 11 = .ok (.iadd, 1) := by decide +kernel
theorem dX8_layPage_12 : decode cX8_layPage 12 = .ok (.aload_n 0, 1) := by decide +kernel
theorem dX8_layPage_13 : decode cX8_layPage 13 = .ok (.getfield 29, 3) := by decide +kernel
theorem dX8_layPage_16 : decode cX8_layPage 16 = .ok (.iload_n 3, 1) := by decide +kernel
theorem dX8_layPage_17 : decode cX8_layPage 17 = .ok (.iaload, 1) := by decide +kernel
theorem dX8_layPage_18 : decode cX8_layPage 18 = .ok (.iastore, 1) := by decide +kernel
theorem dX8_layPage_19 : decode cX8_layPage 19 = .ok (.aload_n 1, 1) := by decide +kernel
theorem dX8_layPage_20 : decode cX8_layPage 20 = .ok (.iload_n 2, 1) := by decide +kernel
theorem dX8_layPage_21 : decode cX8_layPage 21 = .ok (.bipush 8, 2) := by decide +kernel
theorem dX8_layPage_23 : decode cX8_layPage 23 = .ok (.iadd, 1) := by decide +kernel
theorem dX8_layPage_24 : decode cX8_layPage 24 = .ok (.iload_n 3, 1) := by decide +kernel
theorem dX8_layPage_25 : decode cX8_layPage 25 = .ok (.iadd, 1) := by decide +kernel
theorem dX8_layPage_26 : decode cX8_layPage 26 = .ok (.aload_n 0, 1) := by decide +kernel
theorem dX8_layPage_27 : decode cX8_layPage 27 = .ok (.getfield 32, 3) := by decide +kernel
theorem dX8_layPage_30 : decode cX8_layPage 30 = .ok (.iload_n 3, 1) := by decide +kernel
theorem dX8_layPage_31 : decode cX8_layPage 31 = .ok (.iaload, 1) := by decide +kernel
theorem dX8_layPage_32 : decode cX8_layPage 32 = .ok (.iastore, 1) := by decide +kernel
theorem dX8_layPage_33 : decode cX8_layPage 33 = .ok (.aload_n 1, 1) := by decide +kernel
theorem dX8_layPage_34 : decode cX8_layPage 34 = .ok (.iload_n 2, 1) := by decide +kernel
theorem dX8_layPage_35 : decode cX8_layPage 35 = .ok (.bipush 16, 2) := by decide +kernel
theorem dX8_layPage_37 : decode cX8_layPage 37 = .ok (.iadd, 1) := by decide +kernel
theorem dX8_layPage_38 : decode cX8_layPage 38 = .ok (.iload_n 3, 1) := by decide +kernel
theorem dX8_layPage_39 : decode cX8_layPage 39 = .ok (.iadd, 1) := by decide +kernel
theorem dX8_layPage_40 : decode cX8_layPage 40 = .ok (.aload_n 0, 1) := by decide +kernel
theorem dX8_layPage_41 : decode cX8_layPage 41 = .ok (.getfield 35, 3) := by decide +kernel
theorem dX8_layPage_44 : decode cX8_layPage 44 = .ok (.iload_n 3, 1) := by decide +kernel
theorem dX8_layPage_45 : decode cX8_layPage 45 = .ok (.iaload, 1) := by decide +kernel
theorem dX8_layPage_46 : decode cX8_layPage 46 = .ok (.iastore, 1) := by decide +kernel
theorem dX8_layPage_47 : decode cX8_layPage 47 = .ok (.iinc 3 1, 3) := by decide +kernel
theorem dX8_layPage_50 : decode cX8_layPage 50 = .ok (.goto (-48), 3) := by decide +kernel
theorem dX8_layPage_53 : decode cX8_layPage 53 = .ok (.iconst 0, 1) := by decide +kernel
theorem dX8_layPage_54 : decode cX8_layPage 54 = .ok (.istore_n 3, 1) := by decide +kernel
theorem dX8_layPage_55 : decode cX8_layPage 55 = .ok (.iload_n 3, 1) := by decide +kernel
theorem dX8_layPage_56 : decode cX8_layPage 56 = .ok (.iconst 4, 1) := by decide +kernel
theorem dX8_layPage_57 : decode cX8_layPage 57 = .ok (.if_icmp .ge 23, 3) := by decide +kernel
theorem dX8_layPage_60 : decode cX8_layPage 60 = .ok (.aload_n 1, 1) := by decide +kernel
theorem dX8_layPage_61 : decode cX8_layPage 61 = .ok (.iload_n 2, 1) := by decide +kernel
theorem dX8_layPage_62 : decode cX8_layPage 62 = .ok (.bipush 24, 2) := by decide +kernel
theorem dX8_layPage_64 : decode cX8_layPage 64 = .ok (.iadd, 1) := by decide +kernel
theorem dX8_layPage_65 : decode cX8_layPage 65 = .ok (.iload_n 3, 1) := by decide +kernel
theorem dX8_layPage_66 : decode cX8_layPage 66 = .ok (.iadd, 1) := by decide +kernel
theorem dX8_layPage_67 : decode cX8_layPage 67 = .ok (.aload_n 0, 1) := by decide +kernel
theorem dX8_layPage_68 : decode cX8_layPage 68 = .ok (.getfield 38, 3) := by decide +kernel
theorem dX8_layPage_71 : decode cX8_layPage 71 = .ok (.iload_n 3, 1) := by decide +kernel
theorem dX8_layPage_72 : decode cX8_layPage 72 = .ok (.iaload, 1) := by decide +kernel
theorem dX8_layPage_73 : decode cX8_layPage 73 = .ok (.iastore, 1) := by decide +kernel
theorem dX8_layPage_74 : decode cX8_layPage 74 = .ok (.iinc 3 1, 3) := by decide +kernel
theorem dX8_layPage_77 : decode cX8_layPage 77 = .ok (.goto (-22), 3) := by decide +kernel
theorem dX8_layPage_80 : decode cX8_layPage 80 = .ok (.aload_n 1, 1) := by decide +kernel
theorem dX8_layPage_81 : decode cX8_layPage 81 = .ok (.iload_n 2, 1) := by decide +kernel
theorem dX8_layPage_82 : decode cX8_layPage 82 = .ok (.bipush 28, 2) := by decide +kernel
theorem dX8_layPage_84 : decode cX8_layPage 84 = .ok (.iadd, 1) := by decide +kernel
theorem dX8_layPage_85 : decode cX8_layPage 85 = .ok (.aload_n 0, 1) := by decide +kernel
theorem dX8_layPage_86 : decode cX8_layPage 86 = .ok (.getfield 131, 3) := by decide +kernel
theorem dX8_layPage_89 : decode cX8_layPage 89 = .ok (.iastore, 1) := by decide +kernel
theorem dX8_layPage_90 : decode cX8_layPage 90 = .ok (.return_, 1) := by decide +kernel
theorem dX8_takePage_0 : decode cX8_takePage 0 = .ok (.iconst 0, 1) := by decide +kernel
theorem dX8_takePage_1 : decode cX8_takePage 1 = .ok (.istore_n 3, 1) := by decide +kernel
theorem dX8_takePage_2 : decode cX8_takePage 2 = .ok (.iload_n 3, 1) := by decide +kernel
theorem dX8_takePage_3 : decode cX8_takePage 3 = .ok (.bipush 8, 2) := by decide +kernel
theorem dX8_takePage_5 : decode cX8_takePage 5 = .ok (.if_icmp .ge 48, 3) := by decide +kernel
theorem dX8_takePage_8 : decode cX8_takePage 8 = .ok (.aload_n 0, 1) := by decide +kernel
theorem dX8_takePage_9 : decode cX8_takePage 9 = .ok (.getfield 29, 3) := by decide +kernel
theorem dX8_takePage_12 : decode cX8_takePage 12 = .ok (.iload_n 3, 1) := by decide +kernel
theorem dX8_takePage_13 : decode cX8_takePage 13 = .ok (.aload_n 1, 1) := by decide +kernel
theorem dX8_takePage_14 : decode cX8_takePage 14 = .ok (.iload_n 2, 1) := by decide +kernel
theorem dX8_takePage_15 : decode cX8_takePage 15 = .ok (.iload_n 3, 1) := by decide +kernel
theorem dX8_takePage_16 : decode cX8_takePage 16 = .ok (.iadd, 1) := by decide +kernel
theorem dX8_takePage_17 : decode cX8_takePage 17 = .ok (.iaload, 1) := by decide +kernel
theorem dX8_takePage_18 : decode cX8_takePage 18 = .ok (.iastore, 1) := by decide +kernel
theorem dX8_takePage_19 : decode cX8_takePage 19 = .ok (.aload_n 0, 1) := by decide +kernel
theorem dX8_takePage_20 : decode cX8_takePage 20 = .ok (.getfield 32, 3) := by decide +kernel
theorem dX8_takePage_23 : decode cX8_takePage 23 = .ok (.iload_n 3, 1) := by decide +kernel
theorem dX8_takePage_24 : decode cX8_takePage 24 = .ok (.aload_n 1, 1) := by decide +kernel
theorem dX8_takePage_25 : decode cX8_takePage 25 = .ok (.iload_n 2, 1) := by decide +kernel
theorem dX8_takePage_26 : decode cX8_takePage 26 = .ok (.bipush 8, 2) := by decide +kernel
theorem dX8_takePage_28 : decode cX8_takePage 28 = .ok (.iadd, 1) := by decide +kernel
theorem dX8_takePage_29 : decode cX8_takePage 29 = .ok (.iload_n 3, 1) := by decide +kernel
theorem dX8_takePage_30 : decode cX8_takePage 30 = .ok (.iadd, 1) := by decide +kernel
theorem dX8_takePage_31 : decode cX8_takePage 31 = .ok (.iaload, 1) := by decide +kernel
theorem dX8_takePage_32 : decode cX8_takePage 32 = .ok (.iastore, 1) := by decide +kernel
theorem dX8_takePage_33 : decode cX8_takePage 33 = .ok (.aload_n 0, 1) := by decide +kernel
theorem dX8_takePage_34 : decode cX8_takePage 34 = .ok (.getfield 35, 3) := by decide +kernel
theorem dX8_takePage_37 : decode cX8_takePage 37 = .ok (.iload_n 3, 1) := by decide +kernel
theorem dX8_takePage_38 : decode cX8_takePage 38 = .ok (.aload_n 1, 1) := by decide +kernel
theorem dX8_takePage_39 : decode cX8_takePage 39 = .ok (.iload_n 2, 1) := by decide +kernel
theorem dX8_takePage_40 : decode cX8_takePage 40 = .ok (.bipush 16, 2) := by decide +kernel
theorem dX8_takePage_42 : decode cX8_takePage 42 = .ok (.iadd, 1) := by decide +kernel
theorem dX8_takePage_43 : decode cX8_takePage 43 = .ok (.iload_n 3, 1) := by decide +kernel
theorem dX8_takePage_44 : decode cX8_takePage 44 = .ok (.iadd, 1) := by decide +kernel
theorem dX8_takePage_45 : decode cX8_takePage 45 = .ok (.iaload, 1) := by decide +kernel
theorem dX8_takePage_46 : decode cX8_takePage 46 = .ok (.iastore, 1) := by decide +kernel
theorem dX8_takePage_47 : decode cX8_takePage 47 = .ok (.iinc 3 1, 3) := by decide +kernel
theorem dX8_takePage_50 : decode cX8_takePage 50 = .ok (.goto (-48), 3) := by decide +kernel
theorem dX8_takePage_53 : decode cX8_takePage 53 = .ok (.iconst 0, 1) := by decide +kernel
theorem dX8_takePage_54 : decode cX8_takePage 54 = .ok (.istore_n 3, 1) := by decide +kernel
theorem dX8_takePage_55 : decode cX8_takePage 55 = .ok (.iload_n 3, 1) := by decide +kernel
theorem dX8_takePage_56 : decode cX8_takePage 56 = .ok (.iconst 4, 1) := by decide +kernel
theorem dX8_takePage_57 : decode cX8_takePage 57 = .ok (.if_icmp .ge 23, 3) := by decide +kernel
theorem dX8_takePage_60 : decode cX8_takePage 60 = .ok (.aload_n 0, 1) := by decide +kernel
theorem dX8_takePage_61 : decode cX8_takePage 61 = .ok (.getfield 38, 3) := by decide +kernel
theorem dX8_takePage_64 : decode cX8_takePage 64 = .ok (.iload_n 3, 1) := by decide +kernel
theorem dX8_takePage_65 : decode cX8_takePage 65 = .ok (.aload_n 1, 1) := by decide +kernel
theorem dX8_takePage_66 : decode cX8_takePage 66 = .ok (.iload_n 2, 1) := by decide +kernel
theorem dX8_takePage_67 : decode cX8_takePage 67 = .ok (.bipush 24, 2) := by decide +kernel
theorem dX8_takePage_69 : decode cX8_takePage 69 = .ok (.iadd, 1) := by decide +kernel
theorem dX8_takePage_70 : decode cX8_takePage 70 = .ok (.iload_n 3, 1) := by decide +kernel
theorem dX8_takePage_71 : decode cX8_takePage 71 = .ok (.iadd, 1) := by decide +kernel
theorem dX8_takePage_72 : decode cX8_takePage 72 = .ok (.iaload, 1) := by decide +kernel
theorem dX8_takePage_73 : decode cX8_takePage 73 = .ok (.iastore, 1) := by decide +kernel
theorem dX8_takePage_74 : decode cX8_takePage 74 = .ok (.iinc 3 1, 3) := by decide +kernel
theorem dX8_takePage_77 : decode cX8_takePage 77 = .ok (.goto (-22), 3) := by decide +kernel
theorem dX8_takePage_80 : decode cX8_takePage 80 = .ok (.aload_n 0, 1) := by decide +kernel
theorem dX8_takePage_81 : decode cX8_takePage 81 = .ok (.aload_n 1, 1) := by decide +kernel
theorem dX8_takePage_82 : decode cX8_takePage 82 = .ok (.iload_n 2, 1) := by decide +kernel
theorem dX8_takePage_83 : decode cX8_takePage 83 = .ok (.bipush 28, 2) := by decide +kernel
theorem dX8_takePage_85 : decode cX8_takePage 85 = .ok (.iadd, 1) := by decide +kernel
theorem dX8_takePage_86 : decode cX8_takePage 86 = .ok (.iaload, 1) := by decide +kernel
theorem dX8_takePage_87 : decode cX8_takePage 87 = .ok (.putfield 131, 3) := by decide +kernel
theorem dX8_takePage_90 : decode cX8_takePage 90 = .ok (.return_, 1) := by decide +kernel
theorem dX8_note_0 : decode cX8_note 0 = .ok (.aload_n 0, 1) := by decide +kernel
theorem dX8_note_1 : decode cX8_note 1 = .ok (.getfield 134, 3) := by decide +kernel
theorem dX8_note_4 : decode cX8_note 4 = .ok (.bipush 16, 2) := by decide +kernel
theorem dX8_note_6 : decode cX8_note 6 = .ok (.if_icmp .ne 43, 3) := by decide +kernel
theorem dX8_note_9 : decode cX8_note 9 = .ok (.iconst 0, 1) := by decide +kernel
theorem dX8_note_10 : decode cX8_note 10 = .ok (.istore_n 1, 1) := by decide +kernel
theorem dX8_note_11 : decode cX8_note 11 = .ok (.iload_n 1, 1) := by decide +kernel
theorem dX8_note_12 : decode cX8_note 12 = .ok (.sipush 435, 3) := by decide +kernel
theorem dX8_note_15 : decode cX8_note 15 = .ok (.if_icmp .ge 24, 3) := by decide +kernel
theorem dX8_note_18 : decode cX8_note 18 = .ok (.aload_n 0, 1) := by decide +kernel
theorem dX8_note_19 : decode cX8_note 19 = .ok (.getfield 53, 3) := by decide +kernel
theorem dX8_note_22 : decode cX8_note 22 = .ok (.iload_n 1, 1) := by decide +kernel
theorem dX8_note_23 : decode cX8_note 23 = .ok (.aload_n 0, 1) := by decide +kernel
theorem dX8_note_24 : decode cX8_note 24 = .ok (.getfield 53, 3) := by decide +kernel
theorem dX8_note_27 : decode cX8_note 27 = .ok (.iload_n 1, 1) := by decide +kernel
theorem dX8_note_28 : decode cX8_note 28 = .ok (.bipush 29, 2) := by decide +kernel
theorem dX8_note_30 : decode cX8_note 30 = .ok (.iadd, 1) := by decide +kernel
theorem dX8_note_31 : decode cX8_note 31 = .ok (.iaload, 1) := by decide +kernel
theorem dX8_note_32 : decode cX8_note 32 = .ok (.iastore, 1) := by decide +kernel
theorem dX8_note_33 : decode cX8_note 33 = .ok (.iinc 1 1, 3) := by decide +kernel
theorem dX8_note_36 : decode cX8_note 36 = .ok (.goto (-25), 3) := by decide +kernel
theorem dX8_note_39 : decode cX8_note 39 = .ok (.aload_n 0, 1) := by decide +kernel
theorem dX8_note_40 : decode cX8_note 40 = .ok (.dup, 1) := by decide +kernel
theorem dX8_note_41 : decode cX8_note 41 = .ok (.getfield 134, 3) := by decide +kernel
theorem dX8_note_44 : decode cX8_note 44 = .ok (.iconst 1, 1) := by decide +kernel
theorem dX8_note_45 : decode cX8_note 45 = .ok (.isub, 1) := by decide +kernel
theorem dX8_note_46 : decode cX8_note 46 = .ok (.putfield 134, 3) := by decide +kernel
theorem dX8_note_49 : decode cX8_note 49 = .ok (.aload_n 0, 1) := by decide +kernel
theorem dX8_note_50 : decode cX8_note 50 = .ok (.aload_n 0, 1) := by decide +kernel
theorem dX8_note_51 : decode cX8_note 51 = .ok (.getfield 53, 3) := by decide +kernel
theorem dX8_note_54 : decode cX8_note 54 = .ok (.bipush 29, 2) := by decide +kernel
theorem dX8_note_56 : decode cX8_note 56 = .ok (.aload_n 0, 1) := by decide +kernel
theorem dX8_note_57 : decode cX8_note 57 = .ok (.getfield 134, 3) := by decide +kernel
theorem dX8_note_60 : decode cX8_note 60 = .ok (.imul, 1) := by decide +kernel
theorem dX8_note_61 : decode cX8_note 61 = .ok (.invokevirtual 178, 3) := by decide +kernel
theorem dX8_note_64 : decode cX8_note 64 = .ok (.aload_n 0, 1) := by decide +kernel
theorem dX8_note_65 : decode cX8_note 65 = .ok (.dup, 1) := by decide +kernel
theorem dX8_note_66 : decode cX8_note 66 = .ok (.getfield 134, 3) := by decide +kernel
theorem dX8_note_69 : decode cX8_note 69 = .ok (.iconst 1, 1) := by decide +kernel
theorem dX8_note_70 : decode cX8_note 70 = .ok (.iadd, 1) := by decide +kernel
theorem dX8_note_71 : decode cX8_note 71 = .ok (.putfield 134, 3) := by decide +kernel
theorem dX8_note_74 : decode cX8_note 74 = .ok (.return_, 1) := by decide +kernel
theorem dX8_go_0 : decode cX8_go 0 = .ok (.aload_n 0, 1) := by decide +kernel
theorem dX8_go_1 : decode cX8_go 1 = .ok (.iconst 0, 1) := by decide +kernel
theorem dX8_go_2 : decode cX8_go 2 = .ok (.putfield 69, 3) := by decide +kernel
theorem dX8_go_5 : decode cX8_go 5 = .ok (.aload_n 0, 1) := by decide +kernel
theorem dX8_go_6 : decode cX8_go 6 = .ok (.iload_n 1, 1) := by decide +kernel
theorem dX8_go_7 : decode cX8_go 7 = .ok (.invokevirtual 164, 3) := by decide +kernel
theorem dX8_go_10 : decode cX8_go 10 = .ok (.ifCond .ne 11, 3) := by decide +kernel
theorem dX8_go_13 : decode cX8_go 13 = .ok (.aload_n 0, 1) := by decide +kernel
theorem dX8_go_14 : decode cX8_go 14 = .ok (.iload_n 2, 1) := by decide +kernel
theorem dX8_go_15 : decode cX8_go 15 = .ok (.invokevirtual 167, 3) := by decide +kernel
theorem dX8_go_18 : decode cX8_go 18 = .ok (.ifCond .eq 5, 3) := by decide +kernel
theorem dX8_go_21 : decode cX8_go 21 = .ok (.iconst (-1), 1) := by decide +kernel
theorem dX8_go_22 : decode cX8_go 22 = .ok (.ireturn, 1) := by decide +kernel
theorem dX8_go_23 : decode cX8_go 23 = .ok (.aload_n 0, 1) := by decide +kernel
theorem dX8_go_24 : decode cX8_go 24 = .ok (.getfield 35, 3) := by decide +kernel
theorem dX8_go_27 : decode cX8_go 27 = .ok (.iload_n 1, 1) := by decide +kernel
theorem dX8_go_28 : decode cX8_go 28 = .ok (.iaload, 1) := by decide +kernel
theorem dX8_go_29 : decode cX8_go 29 = .ok (.bipush (-9), 2) := by decide +kernel
theorem dX8_go_31 : decode cX8_go 31 = .ok (.if_icmp .ne 13, 3) := by decide +kernel
theorem dX8_go_34 : decode cX8_go 34 = .ok (.aload_n 0, 1) := by decide +kernel
theorem dX8_go_35 : decode cX8_go 35 = .ok (.getfield 29, 3) := by decide +kernel
theorem dX8_go_38 : decode cX8_go 38 = .ok (.iload_n 1, 1) := by decide +kernel
theorem dX8_go_39 : decode cX8_go 39 = .ok (.iaload, 1) := by decide +kernel
theorem dX8_go_40 : decode cX8_go 40 = .ok (.iload_n 2, 1) := by decide +kernel
theorem dX8_go_41 : decode cX8_go 41 = .ok (.if_icmp .ne 6, 3) := by decide +kernel
theorem dX8_go_44 : decode cX8_go 44 = .ok (.bipush (-3), 2) := by decide +kernel
theorem dX8_go_46 : decode cX8_go 46 = .ok (.ireturn, 1) := by decide +kernel
theorem dX8_go_47 : decode cX8_go 47 = .ok (.aload_n 0, 1) := by decide +kernel
theorem dX8_go_48 : decode cX8_go 48 = .ok (.invokevirtual 182, 3) := by decide +kernel
theorem dX8_go_51 : decode cX8_go 51 = .ok (.aload_n 0, 1) := by decide +kernel
theorem dX8_go_52 : decode cX8_go 52 = .ok (.getfield 32, 3) := by decide +kernel
theorem dX8_go_55 : decode cX8_go 55 = .ok (.iload_n 1, 1) := by decide +kernel
theorem dX8_go_56 : decode cX8_go 56 = .ok (.iaload, 1) := by decide +kernel
theorem dX8_go_57 : decode cX8_go 57 = .ok (.istore_n 3, 1) := by decide +kernel
theorem dX8_go_58 : decode cX8_go 58 = .ok (.aload_n 0, 1) := by decide +kernel
theorem dX8_go_59 : decode cX8_go 59 = .ok (.getfield 29, 3) := by decide +kernel
theorem dX8_go_62 : decode cX8_go 62 = .ok (.iload_n 1, 1) := by decide +kernel
theorem dX8_go_63 : decode cX8_go 63 = .ok (.iload_n 2, 1) := by decide +kernel
theorem dX8_go_64 : decode cX8_go 64 = .ok (.iastore, 1) := by decide +kernel
theorem dX8_go_65 : decode cX8_go 65 = .ok (.aload_n 0, 1) := by decide +kernel
theorem dX8_go_66 : decode cX8_go 66 = .ok (.getfield 32, 3) := by decide +kernel
theorem dX8_go_69 : decode cX8_go 69 = .ok (.iload_n 1, 1) := by decide +kernel
theorem dX8_go_70 : decode cX8_go 70 = .ok (.aload_n 0, 1) := by decide +kernel
theorem dX8_go_71 : decode cX8_go 71 = .ok (.getfield 131, 3) := by decide +kernel
theorem dX8_go_74 : decode cX8_go 74 = .ok (.iastore, 1) := by decide +kernel
theorem dX8_go_75 : decode cX8_go 75 = .ok (.iload_n 3, 1) := by decide +kernel
theorem dX8_go_76 : decode cX8_go 76 = .ok (.ireturn, 1) := by decide +kernel
theorem dX8_die_0 : decode cX8_die 0 = .ok (.aload_n 0, 1) := by decide +kernel
theorem dX8_die_1 : decode cX8_die 1 = .ok (.iconst 0, 1) := by decide +kernel
theorem dX8_die_2 : decode cX8_die 2 = .ok (.putfield 69, 3) := by decide +kernel
theorem dX8_die_5 : decode cX8_die 5 = .ok (.aload_n 0, 1) := by decide +kernel
theorem dX8_die_6 : decode cX8_die 6 = .ok (.iload_n 1, 1) := by decide +kernel
theorem dX8_die_7 : decode cX8_die 7 = .ok (.invokevirtual 164, 3) := by decide +kernel
theorem dX8_die_10 : decode cX8_die 10 = .ok (.ifCond .eq 5, 3) := by decide +kernel
theorem dX8_die_13 : decode cX8_die 13 = .ok (.iconst (-1), 1) := by decide +kernel
theorem dX8_die_14 : decode cX8_die 14 = .ok (.ireturn, 1) := by decide +kernel
theorem dX8_die_15 : decode cX8_die 15 = .ok (.aload_n 0, 1) := by decide +kernel
theorem dX8_die_16 : decode cX8_die 16 = .ok (.getfield 35, 3) := by decide +kernel
theorem dX8_die_19 : decode cX8_die 19 = .ok (.iload_n 1, 1) := by decide +kernel
theorem dX8_die_20 : decode cX8_die 20 = .ok (.iaload, 1) := by decide +kernel
theorem dX8_die_21 : decode cX8_die 21 = .ok (.bipush (-9), 2) := by decide +kernel
theorem dX8_die_23 : decode cX8_die 23 = .ok (.if_icmp .eq 6, 3) := by decide +kernel
theorem dX8_die_26 : decode cX8_die 26 = .ok (.bipush (-3), 2) := by decide +kernel
theorem dX8_die_28 : decode cX8_die 28 = .ok (.ireturn, 1) := by decide +kernel
theorem dX8_die_29 : decode cX8_die 29 = .ok (.aload_n 0, 1) := by decide +kernel
theorem dX8_die_30 : decode cX8_die 30 = .ok (.invokevirtual 182, 3) := by decide +kernel
theorem dX8_die_33 : decode cX8_die 33 = .ok (.aload_n 0, 1) := by decide +kernel
theorem dX8_die_34 : decode cX8_die 34 = .ok (.getfield 35, 3) := by decide +kernel
theorem dX8_die_37 : decode cX8_die 37 = .ok (.iload_n 1, 1) := by decide +kernel
theorem dX8_die_38 : decode cX8_die 38 = .ok (.aload_n 0, 1) := by decide +kernel
theorem dX8_die_39 : decode cX8_die 39 = .ok (.getfield 131, 3) := by decide +kernel
theorem dX8_die_42 : decode cX8_die 42 = .ok (.iastore, 1) := by decide +kernel
theorem dX8_die_43 : decode cX8_die 43 = .ok (.aload_n 0, 1) := by decide +kernel
theorem dX8_die_44 : decode cX8_die 44 = .ok (.getfield 131, 3) := by decide +kernel
theorem dX8_die_47 : decode cX8_die 47 = .ok (.aload_n 0, 1) := by decide +kernel
theorem dX8_die_48 : decode cX8_die 48 = .ok (.iload_n 1, 1) := by decide +kernel
theorem dX8_die_49 : decode cX8_die 49 = .ok (.invokevirtual 137, 3) := by decide +kernel
theorem dX8_die_52 : decode cX8_die 52 = .ok (.iadd, 1) := by decide +kernel
theorem dX8_die_53 : decode cX8_die 53 = .ok (.ireturn, 1) := by decide +kernel
theorem dX8_year_0 : decode cX8_year 0 = .ok (.aload_n 0, 1) := by decide +kernel
theorem dX8_year_1 : decode cX8_year 1 = .ok (.iconst 0, 1) := by decide +kernel
theorem dX8_year_2 : decode cX8_year 2 = .ok (.putfield 69, 3) := by decide +kernel
theorem dX8_year_5 : decode cX8_year 5 = .ok (.aload_n 0, 1) := by decide +kernel
theorem dX8_year_6 : decode cX8_year 6 = .ok (.invokevirtual 182, 3) := by decide +kernel
theorem dX8_year_9 : decode cX8_year 9 = .ok (.aload_n 0, 1) := by decide +kernel
theorem dX8_year_10 : decode cX8_year 10 = .ok (.dup, 1) := by decide +kernel
theorem dX8_year_11 : decode cX8_year 11 = .ok (.getfield 131, 3) := by decide +kernel
theorem dX8_year_14 : decode cX8_year 14 = .ok (.iconst 1, 1) := by decide +kernel
theorem dX8_year_15 : decode cX8_year 15 = .ok (.iadd, 1) := by decide +kernel
theorem dX8_year_16 : decode cX8_year 16 = .ok (.putfield 131, 3) := by decide +kernel
theorem dX8_year_19 : decode cX8_year 19 = .ok (.iconst 0, 1) := by decide +kernel
theorem dX8_year_20 : decode cX8_year 20 = .ok (.istore_n 1, 1) := by decide +kernel
theorem dX8_year_21 : decode cX8_year 21 = .ok (.iload_n 1, 1) := by decide +kernel
theorem dX8_year_22 : decode cX8_year 22 = .ok (.iconst 4, 1) := by decide +kernel
theorem dX8_year_23 : decode cX8_year 23 = .ok (.if_icmp .ge 16, 3) := by decide +kernel
theorem dX8_year_26 : decode cX8_year 26 = .ok (.aload_n 0, 1) := by decide +kernel
theorem dX8_year_27 : decode cX8_year 27 = .ok (.getfield 38, 3) := by decide +kernel
theorem dX8_year_30 : decode cX8_year 30 = .ok (.iload_n 1, 1) := by decide +kernel
theorem dX8_year_31 : decode cX8_year 31 = .ok (.iconst 0, 1) := by decide +kernel
theorem dX8_year_32 : decode cX8_year 32 = .ok (.iastore, 1) := by decide +kernel
theorem dX8_year_33 : decode cX8_year 33 = .ok (.iinc 1 1, 3) := by decide +kernel
theorem dX8_year_36 : decode cX8_year 36 = .ok (.goto (-15), 3) := by decide +kernel
theorem dX8_year_39 : decode cX8_year 39 = .ok (.aload_n 0, 1) := by decide +kernel
theorem dX8_year_40 : decode cX8_year 40 = .ok (.getfield 131, 3) := by decide +kernel
theorem dX8_year_43 : decode cX8_year 43 = .ok (.ireturn, 1) := by decide +kernel
theorem dX8_rumour_0 : decode cX8_rumour 0 = .ok (.aload_n 0, 1) := by decide +kernel
theorem dX8_rumour_1 : decode cX8_rumour 1 = .ok (.iconst 0, 1) := by decide +kernel
theorem dX8_rumour_2 : decode cX8_rumour 2 = .ok (.putfield 69, 3) := by decide +kernel
theorem dX8_rumour_5 : decode cX8_rumour 5 = .ok (.aload_n 0, 1) := by decide +kernel
theorem dX8_rumour_6 : decode cX8_rumour 6 = .ok (.iload_n 1, 1) := by decide +kernel
theorem dX8_rumour_7 : decode cX8_rumour 7 = .ok (.invokevirtual 167, 3) := by decide +kernel
theorem dX8_rumour_10 : decode cX8_rumour 10 = .ok (.ifCond .eq 5, 3) := by decide +kernel
theorem dX8_rumour_13 : decode cX8_rumour 13 = .ok (.iconst (-1), 1) := by decide +kernel
theorem dX8_rumour_14 : decode cX8_rumour 14 = .ok (.ireturn, 1) := by decide +kernel
theorem dX8_rumour_15 : decode cX8_rumour 15 = .ok (.iload_n 2, 1) := by decide +kernel
theorem dX8_rumour_16 : decode cX8_rumour 16 = .ok (.i2l, 1) := by decide +kernel
theorem dX8_rumour_17 : decode cX8_rumour 17 = .ok (.lconst 1, 1) := by decide +kernel
theorem dX8_rumour_18 : decode cX8_rumour 18 = .ok (.ldc2_w 185, 3) := by decide +kernel
theorem dX8_rumour_21 : decode cX8_rumour 21 = .ok (.invokestatic 75, 3) := by decide +kernel
theorem dX8_rumour_24 : decode cX8_rumour 24 = .ok (.ifCond .ne 6, 3) := by decide +kernel
theorem dX8_rumour_27 : decode cX8_rumour 27 = .ok (.bipush (-2), 2) := by decide +kernel
theorem dX8_rumour_29 : decode cX8_rumour 29 = .ok (.ireturn, 1) := by decide +kernel
theorem dX8_rumour_30 : decode cX8_rumour 30 = .ok (.aload_n 0, 1) := by decide +kernel
theorem dX8_rumour_31 : decode cX8_rumour 31 = .ok (.getfield 38, 3) := by decide +kernel
theorem dX8_rumour_34 : decode cX8_rumour 34 = .ok (.iload_n 1, 1) := by decide +kernel
theorem dX8_rumour_35 : decode cX8_rumour 35 = .ok (.iaload, 1) := by decide +kernel
theorem dX8_rumour_36 : decode cX8_rumour 36 = .ok (.iload_n 2, 1) := by decide +kernel
theorem dX8_rumour_37 : decode cX8_rumour 37 = .ok (.iadd, 1) := by decide +kernel
theorem dX8_rumour_38 : decode cX8_rumour 38 = .ok (.bipush 99, 2) := by decide +kernel
theorem dX8_rumour_40 : decode cX8_rumour 40 = .ok (.if_icmp .le 6, 3) := by decide +kernel
theorem dX8_rumour_43 : decode cX8_rumour 43 = .ok (.bipush (-4), 2) := by decide +kernel
theorem dX8_rumour_45 : decode cX8_rumour 45 = .ok (.ireturn, 1) := by decide +kernel
theorem dX8_rumour_46 : decode cX8_rumour 46 = .ok (.aload_n 0, 1) := by decide +kernel
theorem dX8_rumour_47 : decode cX8_rumour 47 = .ok (.invokevirtual 182, 3) := by decide +kernel
theorem dX8_rumour_50 : decode cX8_rumour 50 = .ok (.aload_n 0, 1) := by decide +kernel
theorem dX8_rumour_51 : decode cX8_rumour 51 = .ok (.getfield 38, 3) := by decide +kernel
theorem dX8_rumour_54 : decode cX8_rumour 54 = .ok (.iload_n 1, 1) := by decide +kernel
theorem dX8_rumour_55 : decode cX8_rumour 55 = .ok (.dup2, 1) := by decide +kernel
theorem dX8_rumour_56 : decode cX8_rumour 56 = .ok (.iaload, 1) := by decide +kernel
theorem dX8_rumour_57 : decode cX8_rumour 57 = .ok (.iload_n 2, 1) := by decide +kernel
theorem dX8_rumour_58 : decode cX8_rumour 58 = .ok (.iadd, 1) := by decide +kernel
theorem dX8_rumour_59 : decode cX8_rumour 59 = .ok (.iastore, 1) := by decide +kernel
theorem dX8_rumour_60 : decode cX8_rumour 60 = .ok (.aload_n 0, 1) := by decide +kernel
theorem dX8_rumour_61 : decode cX8_rumour 61 = .ok (.getfield 38, 3) := by decide +kernel
theorem dX8_rumour_64 : decode cX8_rumour 64 = .ok (.iload_n 1, 1) := by decide +kernel
theorem dX8_rumour_65 : decode cX8_rumour 65 = .ok (.iaload, 1) := by decide +kernel
theorem dX8_rumour_66 : decode cX8_rumour 66 = .ok (.ireturn, 1) := by decide +kernel
theorem dX8_undo_0 : decode cX8_undo 0 = .ok (.aload_n 0, 1) := by decide +kernel
theorem dX8_undo_1 : decode cX8_undo 1 = .ok (.iconst 0, 1) := by decide +kernel
theorem dX8_undo_2 : decode cX8_undo 2 = .ok (.putfield 69, 3) := by decide +kernel
theorem dX8_undo_5 : decode cX8_undo 5 = .ok (.aload_n 0, 1) := by decide +kernel
theorem dX8_undo_6 : decode cX8_undo 6 = .ok (.getfield 134, 3) := by decide +kernel
theorem dX8_undo_9 : decode cX8_undo 9 = .ok (.ifCond .ne 6, 3) := by decide +kernel
theorem dX8_undo_12 : decode cX8_undo 12 = .ok (.bipush (-3), 2) := by decide +kernel
theorem dX8_undo_14 : decode cX8_undo 14 = .ok (.ireturn, 1) := by decide +kernel
theorem dX8_undo_15 : decode cX8_undo 15 = .ok (.aload_n 0, 1) := by decide +kernel
theorem dX8_undo_16 : decode cX8_undo 16 = .ok (.dup, 1) := by decide +kernel
theorem dX8_undo_17 : decode cX8_undo 17 = .ok (.getfield 134, 3) := by decide +kernel
theorem dX8_undo_20 : decode cX8_undo 20 = .ok (.iconst 1, 1) := by decide +kernel
theorem dX8_undo_21 : decode cX8_undo 21 = .ok (.isub, 1) := by decide +kernel
theorem dX8_undo_22 : decode cX8_undo 22 = .ok (.putfield 134, 3) := by decide +kernel
theorem dX8_undo_25 : decode cX8_undo 25 = .ok (.aload_n 0, 1) := by decide +kernel
theorem dX8_undo_26 : decode cX8_undo 26 = .ok (.aload_n 0, 1) := by decide +kernel
theorem dX8_undo_27 : decode cX8_undo 27 = .ok (.getfield 53, 3) := by decide +kernel
theorem dX8_undo_30 : decode cX8_undo 30 = .ok (.bipush 29, 2) := by decide +kernel
theorem dX8_undo_32 : decode cX8_undo 32 = .ok (.aload_n 0, 1) := by decide +kernel
theorem dX8_undo_33 : decode cX8_undo 33 = .ok (.getfield 134, 3) := by decide +kernel
theorem dX8_undo_36 : decode cX8_undo 36 = .ok (.imul, 1) := by decide +kernel
theorem dX8_undo_37 : decode cX8_undo 37 = .ok (.invokevirtual 187, 3) := by decide +kernel
theorem dX8_undo_40 : decode cX8_undo 40 = .ok (.aload_n 0, 1) := by decide +kernel
theorem dX8_undo_41 : decode cX8_undo 41 = .ok (.getfield 134, 3) := by decide +kernel
theorem dX8_undo_44 : decode cX8_undo 44 = .ok (.ireturn, 1) := by decide +kernel
theorem dX8_forgotten_0 : decode cX8_forgotten 0 = .ok (.aload_n 0, 1) := by decide +kernel
theorem dX8_forgotten_1 : decode cX8_forgotten 1 = .ok (.iconst 0, 1) := by decide +kernel
theorem dX8_forgotten_2 : decode cX8_forgotten 2 = .ok (.putfield 69, 3) := by decide +kernel
theorem dX8_forgotten_5 : decode cX8_forgotten 5 = .ok (.aload_n 0, 1) := by decide +kernel
theorem dX8_forgotten_6 : decode cX8_forgotten 6 = .ok (.iload_n 1, 1) := by decide +kernel
theorem dX8_forgotten_7 : decode cX8_forgotten 7 = .ok (.invokevirtual 164, 3) := by decide +kernel
theorem dX8_forgotten_10 : decode cX8_forgotten 10 = .ok (.ifCond .eq 5, 3) := by decide +kernel
theorem dX8_forgotten_13 : decode cX8_forgotten 13 = .ok (.iconst (-1), 1) := by decide +kernel
theorem dX8_forgotten_14 : decode cX8_forgotten 14 = .ok (.ireturn, 1) := by decide +kernel
theorem dX8_forgotten_15 : decode cX8_forgotten 15 = .ok (.aload_n 0, 1) := by decide +kernel
theorem dX8_forgotten_16 : decode cX8_forgotten 16 = .ok (.getfield 131, 3) := by decide +kernel
theorem dX8_forgotten_19 : decode cX8_forgotten 19 = .ok (.istore_n 2, 1) := by decide +kernel
theorem dX8_forgotten_20 : decode cX8_forgotten 20 = .ok (.aload_n 0, 1) := by decide +kernel
theorem dX8_forgotten_21 : decode cX8_forgotten 21 = .ok (.iload_n 2, 1) := by decide +kernel
theorem dX8_forgotten_22 : decode cX8_forgotten 22 = .ok (.invokevirtual 161, 3) := by decide +kernel
theorem dX8_forgotten_25 : decode cX8_forgotten 25 = .ok (.iload_n 1, 1) := by decide +kernel
theorem dX8_forgotten_26 : decode cX8_forgotten 26 = .ok (.invokestatic 101, 3) := by decide +kernel
theorem dX8_forgotten_29 : decode cX8_forgotten 29 = .ok (.ifCond .eq 9, 3) := by decide +kernel
theorem dX8_forgotten_32 : decode cX8_forgotten 32 = .ok (.iinc 2 1, 3) := by decide +kernel
theorem dX8_forgotten_35 : decode cX8_forgotten 35 = .ok (.goto (-15), 3) := by decide +kernel
theorem dX8_forgotten_38 : decode cX8_forgotten 38 = .ok (.iload_n 2, 1) := by decide +kernel
theorem dX8_forgotten_39 : decode cX8_forgotten 39 = .ok (.ireturn, 1) := by decide +kernel
theorem dX8_lie_0 : decode cX8_lie 0 = .ok (.aload_n 0, 1) := by decide +kernel
theorem dX8_lie_1 : decode cX8_lie 1 = .ok (.iconst 0, 1) := by decide +kernel
theorem dX8_lie_2 : decode cX8_lie 2 = .ok (.putfield 69, 3) := by decide +kernel
theorem dX8_lie_5 : decode cX8_lie 5 = .ok (.aload_n 0, 1) := by decide +kernel
theorem dX8_lie_6 : decode cX8_lie 6 = .ok (.iload_n 1, 1) := by decide +kernel
theorem dX8_lie_7 : decode cX8_lie 7 = .ok (.invokevirtual 167, 3) := by decide +kernel
theorem dX8_lie_10 : decode cX8_lie 10 = .ok (.ifCond .eq 5, 3) := by decide +kernel
theorem dX8_lie_13 : decode cX8_lie 13 = .ok (.iconst (-1), 1) := by decide +kernel
theorem dX8_lie_14 : decode cX8_lie 14 = .ok (.ireturn, 1) := by decide +kernel
theorem dX8_lie_15 : decode cX8_lie 15 = .ok (.iload_n 2, 1) := by decide +kernel
theorem dX8_lie_16 : decode cX8_lie 16 = .ok (.i2l, 1) := by decide +kernel
theorem dX8_lie_17 : decode cX8_lie 17 = .ok (.lconst 0, 1) := by decide +kernel
theorem dX8_lie_18 : decode cX8_lie 18 = .ok (.ldc2_w 190, 3) := by decide +kernel
theorem dX8_lie_21 : decode cX8_lie 21 = .ok (.invokestatic 75, 3) := by decide +kernel
theorem dX8_lie_24 : decode cX8_lie 24 = .ok (.ifCond .ne 6, 3) := by decide +kernel
theorem dX8_lie_27 : decode cX8_lie 27 = .ok (.bipush (-2), 2) := by decide +kernel
theorem dX8_lie_29 : decode cX8_lie 29 = .ok (.ireturn, 1) := by decide +kernel
theorem dX8_lie_30 : decode cX8_lie 30 = .ok (.iload_n 2, 1) := by decide +kernel
theorem dX8_lie_31 : decode cX8_lie 31 = .ok (.aload_n 0, 1) := by decide +kernel
theorem dX8_lie_32 : decode cX8_lie 32 = .ok (.iload_n 1, 1) := by decide +kernel
theorem dX8_lie_33 : decode cX8_lie 33 = .ok (.iconst 0, 1) := by decide +kernel
theorem dX8_lie_34 : decode cX8_lie 34 = .ok (.invokevirtual 170, 3) := by decide +kernel
theorem dX8_lie_37 : decode cX8_lie 37 = .ok (.isub, 1) := by decide +kernel
theorem dX8_lie_38 : decode cX8_lie 38 = .ok (.aload_n 0, 1) := by decide +kernel
theorem dX8_lie_39 : decode cX8_lie 39 = .ok (.getfield 38, 3) := by decide +kernel
theorem dX8_lie_42 : decode cX8_lie 42 = .ok (.iload_n 1, 1) := by decide +kernel
theorem dX8_lie_43 : decode cX8_lie 43 = .ok (.iaload, 1) := by decide +kernel
theorem dX8_lie_44 : decode cX8_lie 44 = .ok (.isub, 1) := by decide +kernel
theorem dX8_lie_45 : decode cX8_lie 45 = .ok (.istore_n 3, 1) := by decide +kernel
theorem dX8_lie_46 : decode cX8_lie 46 = .ok (.iload_n 3, 1) := by decide +kernel
theorem dX8_lie_47 : decode cX8_lie 47 = .ok (.ifCond .gt 5, 3) := by decide +kernel
theorem dX8_lie_50 : decode cX8_lie 50 = .ok (.iconst 0, 1) := by decide +kernel
theorem dX8_lie_51 : decode cX8_lie 51 = .ok (.ireturn, 1) := by decide +kernel
theorem dX8_lie_52 : decode cX8_lie 52 = .ok (.iconst 0, 1) := by decide +kernel
theorem dX8_lie_53 : decode cX8_lie 53 = .ok (.istore 4, 2) := by decide +kernel
theorem dX8_lie_55 : decode cX8_lie 55 = .ok (.iconst 0, 1) := by decide +kernel
theorem dX8_lie_56 : decode cX8_lie 56 = .ok (.istore 5, 2) := by decide +kernel
theorem dX8_lie_58 : decode cX8_lie 58 = .ok (.iconst 0, 1) := by decide +kernel
theorem dX8_lie_59 : decode cX8_lie 59 = .ok (.istore 6, 2) := by decide +kernel
theorem dX8_lie_61 : decode cX8_lie 61 = .ok (.iconst 0, 1) := by decide +kernel
theorem dX8_lie_62 : decode cX8_lie 62 = .ok (.istore 7, 2) := by decide +kernel
theorem dX8_lie_64 : decode cX8_lie 64 = .ok (.iconst 0, 1) := by decide +kernel
theorem dX8_lie_65 : decode cX8_lie 65 = .ok (.istore 8, 2) := by decide +kernel
theorem dX8_lie_67 : decode cX8_lie 67 = .ok (.iload 8, 2) := by decide +kernel
theorem dX8_lie_69 : decode cX8_lie 69 = .ok (.aload_n 0, 1) := by decide +kernel
theorem dX8_lie_70 : decode cX8_lie 70 = .ok (.getfield 72, 3) := by decide +kernel
theorem dX8_lie_73 : decode cX8_lie 73 = .ok (.if_icmp .ge 238, 3) := by decide +kernel
theorem dX8_lie_76 : decode cX8_lie 76 = .ok (.aload_n 0, 1) := by decide +kernel
theorem dX8_lie_77 : decode cX8_lie 77 = .ok (.aload_n 0, 1) := by decide +kernel
theorem dX8_lie_78 : decode cX8_lie 78 = .ok (.getfield 131, 3) := by decide +kernel
theorem dX8_lie_81 : decode cX8_lie 81 = .ok (.invokevirtual 161, 3) := by decide +kernel
theorem dX8_lie_84 : decode cX8_lie 84 = .ok (.iload 8, 2) := by decide +kernel
theorem dX8_lie_86 : decode cX8_lie 86 = .ok (.invokestatic 101, 3) := by decide +kernel
theorem dX8_lie_89 : decode cX8_lie 89 = .ok (.ifCond .eq 18, 3) := by decide +kernel
theorem dX8_lie_92 : decode cX8_lie 92 = .ok (.aload_n 0, 1) := by decide +kernel
theorem dX8_lie_93 : decode cX8_lie 93 = .ok (.getfield 17, 3) := by decide +kernel
theorem dX8_lie_96 : decode cX8_lie 96 = .ok (.iload 8, 2) := by decide +kernel
theorem dX8_lie_98 : decode cX8_lie 98 = .ok (.iaload, 1) := by decide +kernel
theorem dX8_lie_99 : decode cX8_lie 99 = .ok (.iload_n 1, 1) := by decide +kernel
theorem dX8_lie_100 : decode cX8_lie 100 = .ok (.if_icmp .ne 7, 3) := by decide +kernel
theorem dX8_lie_103 : decode cX8_lie 103 = .ok (.iconst 1, 1) := by decide +kernel
theorem dX8_lie_104 : decode cX8_lie 104 = .ok (.goto 4, 3) := by decide +kernel
theorem dX8_lie_107 : decode cX8_lie 107 = .ok (.iconst 0, 1) := by decide +kernel
theorem dX8_lie_108 : decode cX8_lie 108 = .ok (.istore 9, 2) := by decide +kernel
theorem dX8_lie_110 : decode cX8_lie 110 = .ok (.iload 7, 2) := by decide +kernel
theorem dX8_lie_112 : decode cX8_lie 112 = .ok (.iload 9, 2) := by decide +kernel
theorem dX8_lie_114 : decode cX8_lie 114 = .ok (.ifCond .eq 15, 3) := by decide +kernel
theorem dX8_lie_117 : decode cX8_lie 117 = .ok (.iconst 1, 1) := by decide +kernel
theorem dX8_lie_118 : decode cX8_lie 118 = .ok (.aload_n 0, 1) := by decide +kernel
theorem dX8_lie_119 : decode cX8_lie 119 = .ok (.getfield 20, 3) := by decide +kernel
theorem dX8_lie_122 : decode cX8_lie 122 = .ok (.iload 8, 2) := by decide +kernel
theorem dX8_lie_124 : decode cX8_lie 124 = .ok (.iaload, 1) := by decide +kernel
theorem dX8_lie_125 : decode cX8_lie 125 = .ok (.ishl, 1) := by decide +kernel
theorem dX8_lie_126 : decode cX8_lie 126 = .ok (.goto 4, 3) := by decide +kernel
theorem dX8_lie_129 : decode cX8_lie 129 = .ok (.iconst 0, 1) := by decide +kernel
theorem dX8_lie_130 : decode cX8_lie 130 = .ok (.ior, 1) := by decide +kernel
theorem dX8_lie_131 : decode cX8_lie 131 = .ok (.istore 7, 2) := by decide +kernel
theorem dX8_lie_133 : decode cX8_lie 133 = .ok (.iconst 0, 1) := by decide +kernel
theorem dX8_lie_134 : decode cX8_lie 134 = .ok (.istore 10, 2) := by decide +kernel
theorem dX8_lie_136 : decode cX8_lie 136 = .ok (.iconst 0, 1) := by decide +kernel
theorem dX8_lie_137 : decode cX8_lie 137 = .ok (.istore 11, 2) := by decide +kernel
theorem dX8_lie_139 : decode cX8_lie 139 = .ok (.iload 11, 2) := by decide +kernel
theorem dX8_lie_141 : decode cX8_lie 141 = .ok (.aload_n 0, 1) := by decide +kernel
theorem dX8_lie_142 : decode cX8_lie 142 = .ok (.getfield 72, 3) := by decide +kernel
theorem dX8_lie_145 : decode cX8_lie 145 = .ok (.if_icmp .ge 105, 3) := by decide +kernel
theorem dX8_lie_148 : decode cX8_lie 148 = .ok (.aload_n 0, 1) := by decide +kernel
theorem dX8_lie_149 : decode cX8_lie 149 = .ok (.getfield 17, 3) := by decide +kernel
theorem dX8_lie_152 : decode cX8_lie 152 = .ok (.iload 11, 2) := by decide +kernel
theorem dX8_lie_154 : decode cX8_lie 154 = .ok (.iaload, 1) := by decide +kernel
theorem dX8_lie_155 : decode cX8_lie 155 = .ok (.iload_n 1, 1) := by decide +kernel
theorem dX8_lie_156 : decode cX8_lie 156 = .ok (.if_icmp .ne 70, 3) := by decide +kernel
theorem dX8_lie_159 : decode cX8_lie 159 = .ok (.aload_n 0, 1) := by decide +kernel
theorem dX8_lie_160 : decode cX8_lie 160 = .ok (.getfield 17, 3) := by decide +kernel
theorem dX8_lie_163 : decode cX8_lie 163 = .ok (.iload 8, 2) := by decide +kernel
theorem dX8_lie_165 : decode cX8_lie 165 = .ok (.iaload, 1) := by decide +kernel
theorem dX8_lie_166 : decode cX8_lie 166 = .ok (.iload_n 1, 1) := by decide +kernel
theorem dX8_lie_167 : decode cX8_lie 167 = .ok (.if_icmp .ne 59, 3) := by decide +kernel
theorem dX8_lie_170 : decode cX8_lie 170 = .ok (.aload_n 0, 1) := by decide +kernel
theorem dX8_lie_171 : decode cX8_lie 171 = .ok (.iload 11, 2) := by decide +kernel
theorem dX8_lie_173 : decode cX8_lie 173 = .ok (.invokevirtual 140, 3) := by decide +kernel
theorem dX8_lie_176 : decode cX8_lie 176 = .ok (.ifCond .eq 50, 3) := by decide +kernel
theorem dX8_lie_179 : decode cX8_lie 179 = .ok (.aload_n 0, 1) := by decide +kernel
theorem dX8_lie_180 : decode cX8_lie 180 = .ok (.iload 8, 2) := by decide +kernel
theorem dX8_lie_182 : decode cX8_lie 182 = .ok (.aload_n 0, 1) := by decide +kernel
theorem dX8_lie_183 : decode cX8_lie 183 = .ok (.getfield 131, 3) := by decide +kernel
theorem dX8_lie_186 : decode cX8_lie 186 = .ok (.invokevirtual 144, 3) := by decide +kernel
theorem dX8_lie_189 : decode cX8_lie 189 = .ok (.ifCond .eq 37, 3) := by decide +kernel
theorem dX8_lie_192 : decode cX8_lie 192 = .ok (.aload_n 0, 1) := by decide +kernel
theorem dX8_lie_193 : decode cX8_lie 193 = .ok (.iload 11, 2) := by decide +kernel
theorem dX8_lie_195 : decode cX8_lie 195 = .ok (.iload 8, 2) := by decide +kernel
theorem dX8_lie_197 : decode cX8_lie 197 = .ok (.aload_n 0, 1) := by decide +kernel
theorem dX8_lie_198 : decode cX8_lie 198 = .ok (.getfield 131, 3) := by decide +kernel
theorem dX8_lie_201 : decode cX8_lie 201 = .ok (.invokevirtual 147, 3) := by decide +kernel
theorem dX8_lie_204 : decode cX8_lie 204 = .ok (.ifCond .eq 22, 3) := by decide +kernel
theorem dX8_lie_207 : decode cX8_lie 207 = .ok (.aload_n 0, 1) := by decide +kernel
theorem dX8_lie_208 : decode cX8_lie 208 = .ok (.getfield 26, 3) := by decide +kernel
theorem dX8_lie_211 : decode cX8_lie 211 = .ok (.iload 11, 2) := by decide +kernel
theorem dX8_lie_213 : decode cX8_lie 213 = .ok (.iaload, 1) := by decide +kernel
theorem dX8_lie_214 : decode cX8_lie 214 = .ok (.iload 8, 2) := by decide +kernel
theorem dX8_lie_216 : decode cX8_lie 216 = .ok (.invokestatic 101, 3) := by decide +kernel
theorem dX8_lie_219 : decode cX8_lie 219 = .ok (.ifCond .ne 7, 3) := by decide +kernel
theorem dX8_lie_222 : decode cX8_lie 222 = .ok (.iconst 1, 1) := by decide +kernel
theorem dX8_lie_223 : decode cX8_lie 223 = .ok (.goto 4, 3) := by decide +kernel
theorem dX8_lie_226 : decode cX8_lie 226 = .ok (.iconst 0, 1) := by decide +kernel
theorem dX8_lie_227 : decode cX8_lie 227 = .ok (.istore 12, 2) := by decide +kernel
theorem dX8_lie_229 : decode cX8_lie 229 = .ok (.iload 10, 2) := by decide +kernel
theorem dX8_lie_231 : decode cX8_lie 231 = .ok (.iload 12, 2) := by decide +kernel
theorem dX8_lie_233 : decode cX8_lie 233 = .ok (.ifCond .eq 7, 3) := by decide +kernel
theorem dX8_lie_236 : decode cX8_lie 236 = .ok (.iconst 1, 1) := by decide +kernel
theorem dX8_lie_237 : decode cX8_lie 237 = .ok (.goto 4, 3) := by decide +kernel
theorem dX8_lie_240 : decode cX8_lie 240 = .ok (.iconst 0, 1) := by decide +kernel
theorem dX8_lie_241 : decode cX8_lie 241 = .ok (.iadd, 1) := by decide +kernel
theorem dX8_lie_242 : decode cX8_lie 242 = .ok (.istore 10, 2) := by decide +kernel
theorem dX8_lie_244 : decode cX8_lie 244 = .ok (.iinc 11 1, 3) := by decide +kernel
theorem dX8_lie_247 : decode cX8_lie 247 = .ok (.goto (-108), 3) := by decide +kernel
theorem dX8_lie_250 : decode cX8_lie 250 = .ok (.iload 4, 2) := by decide +kernel
theorem dX8_lie_252 : decode cX8_lie 252 = .ok (.iload 10, 2) := by decide +kernel
theorem dX8_lie_254 : decode cX8_lie 254 = .ok (.iadd, 1) := by decide +kernel
theorem dX8_lie_255 : decode cX8_lie 255 = .ok (.istore 4, 2) := by decide +kernel
theorem dX8_lie_257 : decode cX8_lie 257 = .ok (.iload 5, 2) := by decide +kernel
theorem dX8_lie_259 : decode cX8_lie 259 = .ok (.iload 10, 2) := by decide +kernel
theorem dX8_lie_261 : decode cX8_lie 261 = .ok (.ifCond .le 12, 3) := by decide +kernel
theorem dX8_lie_264 : decode cX8_lie 264 = .ok (.iload 9, 2) := by decide +kernel
theorem dX8_lie_266 : decode cX8_lie 266 = .ok (.ifCond .ne 7, 3) := by decide +kernel
theorem dX8_lie_269 : decode cX8_lie 269 = .ok (.iconst 1, 1) := by decide +kernel
theorem dX8_lie_270 : decode cX8_lie 270 = .ok (.goto 4, 3) := by decide +kernel
theorem dX8_lie_273 : decode cX8_lie 273 = .ok (.iconst 0, 1) := by decide +kernel
theorem dX8_lie_274 : decode cX8_lie 274 = .ok (.iadd, 1) := by decide +kernel
theorem dX8_lie_275 : decode cX8_lie 275 = .ok (.istore 5, 2) := by decide +kernel
theorem dX8_lie_277 : decode cX8_lie 277 = .ok (.iload 6, 2) := by decide +kernel
theorem dX8_lie_279 : decode cX8_lie 279 = .ok (.iload 10, 2) := by decide +kernel
theorem dX8_lie_281 : decode cX8_lie 281 = .ok (.ifCond .le 20, 3) := by decide +kernel
theorem dX8_lie_284 : decode cX8_lie 284 = .ok (.iload 9, 2) := by decide +kernel
theorem dX8_lie_286 : decode cX8_lie 286 = .ok (.ifCond .ne 15, 3) := by decide +kernel
theorem dX8_lie_289 : decode cX8_lie 289 = .ok (.iconst 1, 1) := by decide +kernel
theorem dX8_lie_290 : decode cX8_lie 290 = .ok (.aload_n 0, 1) := by decide +kernel
theorem dX8_lie_291 : decode cX8_lie 291 = .ok (.getfield 20, 3) := by decide +kernel
theorem dX8_lie_294 : decode cX8_lie 294 = .ok (.iload 8, 2) := by decide +kernel
theorem dX8_lie_296 : decode cX8_lie 296 = .ok (.iaload, 1) := by decide +kernel
theorem dX8_lie_297 : decode cX8_lie 297 = .ok (.ishl, 1) := by decide +kernel
theorem dX8_lie_298 : decode cX8_lie 298 = .ok (.goto 4, 3) := by decide +kernel
theorem dX8_lie_301 : decode cX8_lie 301 = .ok (.iconst 0, 1) := by decide +kernel
theorem dX8_lie_302 : decode cX8_lie 302 = .ok (.ior, 1) := by decide +kernel
theorem dX8_lie_303 : decode cX8_lie 303 = .ok (.istore 6, 2) := by decide +kernel
theorem dX8_lie_305 : decode cX8_lie 305 = .ok (.iinc 8 1, 3) := by decide +kernel
theorem dX8_lie_308 : decode cX8_lie 308 = .ok (.goto (-241), 3) := by decide +kernel
theorem dX8_lie_311 : decode cX8_lie 311 = .ok (.aload_n 0, 1) := by decide +kernel
theorem dX8_lie_312 : decode cX8_lie 312 = .ok (.getfield 128, 3) := by decide +kernel
theorem dX8_lie_315 : decode cX8_lie 315 = .ok (.ifCond .ne 8, 3) := by decide +kernel
theorem dX8_lie_318 : decode cX8_lie 318 = .ok (.iload 4, 2) := by decide +kernel
theorem dX8_lie_320 : decode cX8_lie 320 = .ok (.goto 26, 3) := by decide +kernel
theorem dX8_lie_323 : decode cX8_lie 323 = .ok (.aload_n 0, 1) := by decide +kernel
theorem dX8_lie_324 : decode cX8_lie 324 = .ok (.getfield 128, 3) := by decide +kernel
theorem dX8_lie_327 : decode cX8_lie 327 = .ok (.iconst 1, 1) := by decide +kernel
theorem dX8_lie_328 : decode cX8_lie 328 = .ok (.if_icmp .ne 8, 3) := by decide +kernel
theorem dX8_lie_331 : decode cX8_lie 331 = .ok (.iload 5, 2) := by decide +kernel
theorem dX8_lie_333 : decode cX8_lie 333 = .ok (.goto 13, 3) := by decide +kernel
theorem dX8_lie_336 : decode cX8_lie 336 = .ok (.iload 6, 2) := by decide +kernel
theorem dX8_lie_338 : decode cX8_lie 338 = .ok (.iload 7, 2) := by decide +kernel
theorem dX8_lie_340 : decode cX8_lie 340 = .ok (.iconst (-1), 1) := by decide +kernel
theorem dX8_lie_341 : decode cX8_lie 341 = .ok (.ixor, 1) := by decide +kernel
theorem dX8_lie_342 : decode cX8_lie 342 = .ok (.iand, 1) := by decide +kernel
theorem dX8_lie_343 : decode cX8_lie 343 = .ok (.invokestatic 151, 3) := by decide +kernel
theorem dX8_lie_346 : decode cX8_lie 346 = .ok (.istore 8, 2) := by decide +kernel
theorem dX8_lie_348 : decode cX8_lie 348 = .ok (.iload_n 3, 1) := by decide +kernel
theorem dX8_lie_349 : decode cX8_lie 349 = .ok (.iload 8, 2) := by decide +kernel
theorem dX8_lie_351 : decode cX8_lie 351 = .ok (.if_icmp .gt 7, 3) := by decide +kernel
theorem dX8_lie_354 : decode cX8_lie 354 = .ok (.iload_n 3, 1) := by decide +kernel
theorem dX8_lie_355 : decode cX8_lie 355 = .ok (.goto 5, 3) := by decide +kernel
theorem dX8_lie_358 : decode cX8_lie 358 = .ok (.bipush (-9), 2) := by decide +kernel
theorem dX8_lie_360 : decode cX8_lie 360 = .ok (.ireturn, 1) := by decide +kernel
theorem dX8_leave_0 : decode cX8_leave 0 = .ok (.aload_n 0, 1) := by decide +kernel
theorem dX8_leave_1 : decode cX8_leave 1 = .ok (.iconst 0, 1) := by decide +kernel
theorem dX8_leave_2 : decode cX8_leave 2 = .ok (.putfield 69, 3) := by decide +kernel
theorem dX8_leave_5 : decode cX8_leave 5 = .ok (.aload_n 0, 1) := by decide +kernel
theorem dX8_leave_6 : decode cX8_leave 6 = .ok (.iload_n 1, 1) := by decide +kernel
theorem dX8_leave_7 : decode cX8_leave 7 = .ok (.invokevirtual 167, 3) := by decide +kernel
theorem dX8_leave_10 : decode cX8_leave 10 = .ok (.ifCond .eq 5, 3) := by decide +kernel
theorem dX8_leave_13 : decode cX8_leave 13 = .ok (.iconst (-1), 1) := by decide +kernel
theorem dX8_leave_14 : decode cX8_leave 14 = .ok (.ireturn, 1) := by decide +kernel
theorem dX8_leave_15 : decode cX8_leave 15 = .ok (.iload_n 2, 1) := by decide +kernel
theorem dX8_leave_16 : decode cX8_leave 16 = .ok (.i2l, 1) := by decide +kernel
theorem dX8_leave_17 : decode cX8_leave 17 = .ok (.lconst 0, 1) := by decide +kernel
theorem dX8_leave_18 : decode cX8_leave 18 = .ok (.ldc2_w 190, 3) := by decide +kernel
theorem dX8_leave_21 : decode cX8_leave 21 = .ok (.invokestatic 75, 3) := by decide +kernel
theorem dX8_leave_24 : decode cX8_leave 24 = .ok (.ifCond .ne 6, 3) := by decide +kernel
theorem dX8_leave_27 : decode cX8_leave 27 = .ok (.bipush (-2), 2) := by decide +kernel
theorem dX8_leave_29 : decode cX8_leave 29 = .ok (.ireturn, 1) := by decide +kernel
theorem dX8_leave_30 : decode cX8_leave 30 = .ok (.iconst 0, 1) := by decide +kernel
theorem dX8_leave_31 : decode cX8_leave 31 = .ok (.istore_n 3, 1) := by decide +kernel
theorem dX8_leave_32 : decode cX8_leave 32 = .ok (.iconst 0, 1) := by decide +kernel
theorem dX8_leave_33 : decode cX8_leave 33 = .ok (.istore 4, 2) := by decide +kernel
theorem dX8_leave_35 : decode cX8_leave 35 = .ok (.iload 4, 2) := by decide +kernel
theorem dX8_leave_37 : decode cX8_leave 37 = .ok (.aload_n 0, 1) := by decide +kernel
theorem dX8_leave_38 : decode cX8_leave 38 = .ok (.getfield 72, 3) := by decide +kernel
theorem dX8_leave_41 : decode cX8_leave 41 = .ok (.if_icmp .ge 40, 3) := by decide +kernel
theorem dX8_leave_44 : decode cX8_leave 44 = .ok (.iload_n 3, 1) := by decide +kernel
theorem dX8_leave_45 : decode cX8_leave 45 = .ok (.aload_n 0, 1) := by decide +kernel
theorem dX8_leave_46 : decode cX8_leave 46 = .ok (.getfield 17, 3) := by decide +kernel
theorem dX8_leave_49 : decode cX8_leave 49 = .ok (.iload 4, 2) := by decide +kernel
theorem dX8_leave_51 : decode cX8_leave 51 = .ok (.iaload, 1) := by decide +kernel
theorem dX8_leave_52 : decode cX8_leave 52 = .ok (.iload_n 1, 1) := by decide +kernel
theorem dX8_leave_53 : decode cX8_leave 53 = .ok (.if_icmp .ne 19, 3) := by decide +kernel
theorem dX8_leave_56 : decode cX8_leave 56 = .ok (.aload_n 0, 1) := by decide +kernel
theorem dX8_leave_57 : decode cX8_leave 57 = .ok (.iload 4, 2) := by decide +kernel
theorem dX8_leave_59 : decode cX8_leave 59 = .ok (.invokevirtual 140, 3) := by decide +kernel
theorem dX8_leave_62 : decode cX8_leave 62 = .ok (.ifCond .eq 10, 3) := by decide +kernel
theorem dX8_leave_65 : decode cX8_leave 65 = .ok (.iconst 1, 1) := by decide +kernel
theorem dX8_leave_66 : decode cX8_leave 66 = .ok (.iload 4, 2) := by decide +kernel
theorem dX8_leave_68 : decode cX8_leave 68 = .ok (.ishl, 1) := by decide +kernel
theorem dX8_leave_69 : decode cX8_leave 69 = .ok (.goto 4, 3) := by decide +kernel
theorem dX8_leave_72 : decode cX8_leave 72 = .ok (.iconst 0, 1) := by decide +kernel
theorem dX8_leave_73 : decode cX8_leave 73 = .ok (.ior, 1) := by decide +kernel
theorem dX8_leave_74 : decode cX8_leave 74 = .ok (.istore_n 3, 1) := by decide +kernel
theorem dX8_leave_75 : decode cX8_leave 75 = .ok (.iinc 4 1, 3) := by decide +kernel
theorem dX8_leave_78 : decode cX8_leave 78 = .ok (.goto (-43), 3) := by decide +kernel
theorem dX8_leave_81 : decode cX8_leave 81 = .ok (.bipush (-9), 2) := by decide +kernel
theorem dX8_leave_83 : decode cX8_leave 83 = .ok (.istore 4, 2) := by decide +kernel
theorem dX8_leave_85 : decode cX8_leave 85 = .ok (.iconst 0, 1) := by decide +kernel
theorem dX8_leave_86 : decode cX8_leave 86 = .ok (.istore 5, 2) := by decide +kernel
theorem dX8_leave_88 : decode cX8_leave 88 = .ok (.iload 5, 2) := by decide +kernel
theorem dX8_leave_90 : decode cX8_leave 90 = .ok (.iconst 1, 1) := by decide +kernel
theorem dX8_leave_91 : decode cX8_leave 91 = .ok (.aload_n 0, 1) := by decide +kernel
theorem dX8_leave_92 : decode cX8_leave 92 = .ok (.getfield 72, 3) := by decide +kernel
theorem dX8_leave_95 : decode cX8_leave 95 = .ok (.ishl, 1) := by decide +kernel
theorem dX8_leave_96 : decode cX8_leave 96 = .ok (.if_icmp .ge 72, 3) := by decide +kernel
theorem dX8_leave_99 : decode cX8_leave 99 = .ok (.iload 4, 2) := by decide +kernel
theorem dX8_leave_101 : decode cX8_leave 101 = .ok (.bipush (-9), 2) := by decide +kernel
theorem dX8_leave_103 : decode cX8_leave 103 = .ok (.if_icmp .eq 16, 3) := by decide +kernel
theorem dX8_leave_106 : decode cX8_leave 106 = .ok (.iload 5, 2) := by decide +kernel
theorem dX8_leave_108 : decode cX8_leave 108 = .ok (.invokestatic 151, 3) := by decide +kernel
theorem dX8_leave_111 : decode cX8_leave 111 = .ok (.iload 4, 2) := by decide +kernel
theorem dX8_leave_113 : decode cX8_leave 113 = .ok (.invokestatic 151, 3) := by decide +kernel
theorem dX8_leave_116 : decode cX8_leave 116 = .ok (.if_icmp .ge 7, 3) := by decide +kernel
theorem dX8_leave_119 : decode cX8_leave 119 = .ok (.iconst 1, 1) := by decide +kernel
theorem dX8_leave_120 : decode cX8_leave 120 = .ok (.goto 4, 3) := by decide +kernel
theorem dX8_leave_123 : decode cX8_leave 123 = .ok (.iconst 0, 1) := by decide +kernel
theorem dX8_leave_124 : decode cX8_leave 124 = .ok (.istore 6, 2) := by decide +kernel
theorem dX8_leave_126 : decode cX8_leave 126 = .ok (.iload 6, 2) := by decide +kernel
theorem dX8_leave_128 : decode cX8_leave 128 = .ok (.ifCond .eq 34, 3) := by decide +kernel
theorem dX8_leave_131 : decode cX8_leave 131 = .ok (.iload 5, 2) := by decide +kernel
theorem dX8_leave_133 : decode cX8_leave 133 = .ok (.iload_n 3, 1) := by decide +kernel
theorem dX8_leave_134 : decode cX8_leave 134 = .ok (.iconst (-1), 1) := by decide +kernel
theorem dX8_leave_135 : decode cX8_leave 135 = .ok (.ixor, 1) := by decide +kernel
theorem dX8_leave_136 : decode cX8_leave 136 = .ok (.iand, 1) := by decide +kernel
theorem dX8_leave_137 : decode cX8_leave 137 = .ok (.ifCond .ne 25, 3) := by decide +kernel
theorem dX8_leave_140 : decode cX8_leave 140 = .ok (.aload_n 0, 1) := by decide +kernel
theorem dX8_leave_141 : decode cX8_leave 141 = .ok (.iload_n 1, 1) := by decide +kernel
theorem dX8_leave_142 : decode cX8_leave 142 = .ok (.iload 5, 2) := by decide +kernel
theorem dX8_leave_144 : decode cX8_leave 144 = .ok (.invokevirtual 170, 3) := by decide +kernel
theorem dX8_leave_147 : decode cX8_leave 147 = .ok (.aload_n 0, 1) := by decide +kernel
theorem dX8_leave_148 : decode cX8_leave 148 = .ok (.getfield 38, 3) := by decide +kernel
theorem dX8_leave_151 : decode cX8_leave 151 = .ok (.iload_n 1, 1) := by decide +kernel
theorem dX8_leave_152 : decode cX8_leave 152 = .ok (.iaload, 1) := by decide +kernel
theorem dX8_leave_153 : decode cX8_leave 153 = .ok (.iadd, 1) := by decide +kernel
theorem dX8_leave_154 : decode cX8_leave 154 = .ok (.iload_n 2, 1) := by decide +kernel
theorem dX8_leave_155 : decode cX8_leave 155 = .ok (.if_icmp .gt 7, 3) := by decide +kernel
theorem dX8_leave_158 : decode cX8_leave 158 = .ok (.iload 5, 2) := by decide +kernel
theorem dX8_leave_160 : decode cX8_leave 160 = .ok (.istore 4, 2) := by decide +kernel
theorem dX8_leave_162 : decode cX8_leave 162 = .ok (.iinc 5 1, 3) := by decide +kernel
theorem dX8_leave_165 : decode cX8_leave 165 = .ok (.goto (-77), 3) := by decide +kernel
theorem dX8_leave_168 : decode cX8_leave 168 = .ok (.iload 4, 2) := by decide +kernel
theorem dX8_leave_170 : decode cX8_leave 170 = .ok (.ireturn, 1) := by decide +kernel
theorem dX8_countBy_0 : decode cX8_countBy 0 = .ok (.iconst 0, 1) := by decide +kernel
theorem dX8_countBy_1 : decode cX8_countBy 1 = .ok (.istore_n 3, 1) := by decide +kernel
theorem dX8_countBy_2 : decode cX8_countBy 2 = .ok (.iconst 0, 1) := by decide +kernel
theorem dX8_countBy_3 : decode cX8_countBy 3 = .ok (.istore 4, 2) := by decide +kernel
theorem dX8_countBy_5 : decode cX8_countBy 5 = .ok (.iconst 0, 1) := by decide +kernel
theorem dX8_countBy_6 : decode cX8_countBy 6 = .ok (.istore 5, 2) := by decide +kernel
theorem dX8_countBy_8 : decode cX8_countBy 8 = .ok (.iload 5, 2) := by decide +kernel
theorem dX8_countBy_10 : decode cX8_countBy 10 = .ok (.aload_n 0, 1) := by decide +kernel
theorem dX8_countBy_11 : decode cX8_countBy 11 = .ok (.getfield 72, 3) := by decide +kernel
theorem dX8_countBy_14 : decode cX8_countBy 14 = .ok (.if_icmp .ge 56, 3) := by decide +kernel
theorem dX8_countBy_17 : decode cX8_countBy 17 = .ok (.iload_n 1, 1) := by decide +kernel
theorem dX8_countBy_18 : decode cX8_countBy 18 = .ok (.iload 5, 2) := by decide +kernel
theorem dX8_countBy_20 : decode cX8_countBy 20 = .ok (.invokestatic 101, 3) := by decide +kernel
theorem dX8_countBy_23 : decode cX8_countBy 23 = .ok (.ifCond .eq 41, 3) := by decide +kernel
theorem dX8_countBy_26 : decode cX8_countBy 26 = .ok (.iload_n 2, 1) := by decide +kernel
theorem dX8_countBy_27 : decode cX8_countBy 27 = .ok (.iload 5, 2) := by decide +kernel
theorem dX8_countBy_29 : decode cX8_countBy 29 = .ok (.invokestatic 101, 3) := by decide +kernel
theorem dX8_countBy_32 : decode cX8_countBy 32 = .ok (.ifCond .ne 32, 3) := by decide +kernel
theorem dX8_countBy_35 : decode cX8_countBy 35 = .ok (.iload_n 3, 1) := by decide +kernel
theorem dX8_countBy_36 : decode cX8_countBy 36 = .ok (.aload_n 0, 1) := by decide +kernel
theorem dX8_countBy_37 : decode cX8_countBy 37 = .ok (.getfield 26, 3) := by decide +kernel
theorem dX8_countBy_40 : decode cX8_countBy 40 = .ok (.iload 5, 2) := by decide +kernel
theorem dX8_countBy_42 : decode cX8_countBy 42 = .ok (.iaload, 1) := by decide +kernel
theorem dX8_countBy_43 : decode cX8_countBy 43 = .ok (.iload_n 2, 1) := by decide +kernel
theorem dX8_countBy_44 : decode cX8_countBy 44 = .ok (.iand, 1) := by decide +kernel
theorem dX8_countBy_45 : decode cX8_countBy 45 = .ok (.invokestatic 151, 3) := by decide +kernel
theorem dX8_countBy_48 : decode cX8_countBy 48 = .ok (.iadd, 1) := by decide +kernel
theorem dX8_countBy_49 : decode cX8_countBy 49 = .ok (.istore_n 3, 1) := by decide +kernel
theorem dX8_countBy_50 : decode cX8_countBy 50 = .ok (.iload 4, 2) := by decide +kernel
theorem dX8_countBy_52 : decode cX8_countBy 52 = .ok (.aload_n 0, 1) := by decide +kernel
theorem dX8_countBy_53 : decode cX8_countBy 53 = .ok (.getfield 26, 3) := by decide +kernel
theorem dX8_countBy_56 : decode cX8_countBy 56 = .ok (.iload 5, 2) := by decide +kernel
theorem dX8_countBy_58 : decode cX8_countBy 58 = .ok (.iaload, 1) := by decide +kernel
theorem dX8_countBy_59 : decode cX8_countBy 59 = .ok (.iload_n 2, 1) := by decide +kernel
theorem dX8_countBy_60 : decode cX8_countBy 60 = .ok (.iand, 1) := by decide +kernel
theorem dX8_countBy_61 : decode cX8_countBy 61 = .ok (.ior, 1) := by decide +kernel
theorem dX8_countBy_62 : decode cX8_countBy 62 = .ok (.istore 4, 2) := by decide +kernel
theorem dX8_countBy_64 : decode cX8_countBy 64 = .ok (.iinc 5 1, 3) := by decide +kernel
theorem dX8_countBy_67 : decode cX8_countBy 67 = .ok (.goto (-59), 3) := by decide +kernel
theorem dX8_countBy_70 : decode cX8_countBy 70 = .ok (.aload_n 0, 1) := by decide +kernel
theorem dX8_countBy_71 : decode cX8_countBy 71 = .ok (.iload_n 3, 1) := by decide +kernel
theorem dX8_countBy_72 : decode cX8_countBy 72 = .ok (.iload 4, 2) := by decide +kernel
theorem dX8_countBy_74 : decode cX8_countBy 74 = .ok (.invokevirtual 158, 3) := by decide +kernel
theorem dX8_countBy_77 : decode cX8_countBy 77 = .ok (.ireturn, 1) := by decide +kernel
theorem dX8_laySets_0 : decode cX8_laySets 0 = .ok (.aload_n 0, 1) := by decide +kernel
theorem dX8_laySets_1 : decode cX8_laySets 1 = .ok (.iload_n 1, 1) := by decide +kernel
theorem dX8_laySets_2 : decode cX8_laySets 2 = .ok (.invokevirtual 173, 3) := by decide +kernel
theorem dX8_laySets_5 : decode cX8_laySets 5 = .ok (.istore_n 3, 1) := by decide +kernel
theorem dX8_laySets_6 : decode cX8_laySets 6 = .ok (.aload_n 0, 1) := by decide +kernel
theorem dX8_laySets_7 : decode cX8_laySets 7 = .ok (.iconst 0, 1) := by decide +kernel
theorem dX8_laySets_8 : decode cX8_laySets 8 = .ok (.putfield 192, 3) := by decide +kernel
theorem dX8_laySets_11 : decode cX8_laySets 11 = .ok (.aload_n 0, 1) := by decide +kernel
theorem dX8_laySets_12 : decode cX8_laySets 12 = .ok (.bipush (-9), 2) := by decide +kernel
theorem dX8_laySets_14 : decode cX8_laySets 14 = .ok (.putfield 195, 3) := by decide +kernel
theorem dX8_laySets_17 : decode cX8_laySets 17 = .ok (.aload_n 0, 1) := by decide +kernel
theorem dX8_laySets_18 : decode cX8_laySets 18 = .ok (.bipush (-9), 2) := by decide +kernel
theorem dX8_laySets_20 : decode cX8_laySets 20 = .ok (.putfield 198, 3) := by decide +kernel
theorem dX8_laySets_23 : decode cX8_laySets 23 = .ok (.iconst 0, 1) := by decide +kernel
theorem dX8_laySets_24 : decode cX8_laySets 24 = .ok (.istore 4, 2) := by decide +kernel
theorem dX8_laySets_26 : decode cX8_laySets 26 = .ok (.iload 4, 2) := by decide +kernel
theorem dX8_laySets_28 : decode cX8_laySets 28 = .ok (.bipush 8, 2) := by decide +kernel
theorem dX8_laySets_30 : decode cX8_laySets 30 = .ok (.if_icmp .ge 17, 3) := by decide +kernel
theorem dX8_laySets_33 : decode cX8_laySets 33 = .ok (.aload_n 0, 1) := by decide +kernel
theorem dX8_laySets_34 : decode cX8_laySets 34 = .ok (.getfield 63, 3) := by decide +kernel
theorem dX8_laySets_37 : decode cX8_laySets 37 = .ok (.iload 4, 2) := by decide +kernel
theorem dX8_laySets_39 : decode cX8_laySets 39 = .ok (.iconst 0, 1) := by decide +kernel
theorem dX8_laySets_40 : decode cX8_laySets 40 = .ok (.iastore, 1) := by decide +kernel
theorem dX8_laySets_41 : decode cX8_laySets 41 = .ok (.iinc 4 1, 3) := by decide +kernel
theorem dX8_laySets_44 : decode cX8_laySets 44 = .ok (.goto (-18), 3) := by decide +kernel
theorem dX8_laySets_47 : decode cX8_laySets 47 = .ok (.iconst 0, 1) := by decide +kernel
theorem dX8_laySets_48 : decode cX8_laySets 48 = .ok (.istore 4, 2) := by decide +kernel
theorem dX8_laySets_50 : decode cX8_laySets 50 = .ok (.iload 4, 2) := by decide +kernel
theorem dX8_laySets_52 : decode cX8_laySets 52 = .ok (.iconst 1, 1) := by decide +kernel
theorem dX8_laySets_53 : decode cX8_laySets 53 = .ok (.aload_n 0, 1) := by decide +kernel
theorem dX8_laySets_54 : decode cX8_laySets 54 = .ok (.getfield 72, 3) := by decide +kernel
theorem dX8_laySets_57 : decode cX8_laySets 57 = .ok (.ishl, 1) := by decide +kernel
theorem dX8_laySets_58 : decode cX8_laySets 58 = .ok (.if_icmp .ge 147, 3) := by decide +kernel
theorem dX8_laySets_61 : decode cX8_laySets 61 = .ok (.iload 4, 2) := by decide +kernel
theorem dX8_laySets_63 : decode cX8_laySets 63 = .ok (.iload_n 3, 1) := by decide +kernel
theorem dX8_laySets_64 : decode cX8_laySets 64 = .ok (.iconst (-1), 1) := by decide +kernel
theorem dX8_laySets_65 : decode cX8_laySets 65 = .ok (.ixor, 1) := by decide +kernel
theorem dX8_laySets_66 : decode cX8_laySets 66 = .ok (.iand, 1) := by decide +kernel
theorem dX8_laySets_67 : decode cX8_laySets 67 = .ok (.ifCond .ne 132, 3) := by decide +kernel
theorem dX8_laySets_70 : decode cX8_laySets 70 = .ok (.aload_n 0, 1) := by decide +kernel
theorem dX8_laySets_71 : decode cX8_laySets 71 = .ok (.iload_n 3, 1) := by decide +kernel
theorem dX8_laySets_72 : decode cX8_laySets 72 = .ok (.iload 4, 2) := by decide +kernel
theorem dX8_laySets_74 : decode cX8_laySets 74 = .ok (.invokevirtual 201, 3) := by decide +kernel
theorem dX8_laySets_77 : decode cX8_laySets 77 = .ok (.iload_n 2, 1) := by decide +kernel
theorem dX8_laySets_78 : decode cX8_laySets 78 = .ok (.if_icmp .ne 121, 3) := by decide +kernel
theorem dX8_laySets_81 : decode cX8_laySets 81 = .ok (.iload_n 3, 1) := by decide +kernel
theorem dX8_laySets_82 : decode cX8_laySets 82 = .ok (.invokestatic 151, 3) := by decide +kernel
theorem dX8_laySets_85 : decode cX8_laySets 85 = .ok (.iload 4, 2) := by decide +kernel
theorem dX8_laySets_87 : decode cX8_laySets 87 = .ok (.invokestatic 151, 3) := by decide +kernel
theorem dX8_laySets_90 : decode cX8_laySets 90 = .ok (.isub, 1) := by decide +kernel
theorem dX8_laySets_91 : decode cX8_laySets 91 = .ok (.istore 5, 2) := by decide +kernel
theorem dX8_laySets_93 : decode cX8_laySets 93 = .ok (.aload_n 0, 1) := by decide +kernel
theorem dX8_laySets_94 : decode cX8_laySets 94 = .ok (.dup, 1) := by decide +kernel
theorem dX8_laySets_95 : decode cX8_laySets 95 = .ok (.getfield 192, 3) := by decide +kernel
theorem dX8_laySets_98 : decode cX8_laySets 98 = .ok (.iconst 1, 1) := by decide +kernel
theorem dX8_laySets_99 : decode cX8_laySets 99 = .ok (.iadd, 1) := by decide +kernel
theorem dX8_laySets_100 : decode cX8_laySets 100 = .ok (.putfield 192, 3) := by decide +kernel
theorem dX8_laySets_103 : decode cX8_laySets 103 = .ok (.aload_n 0, 1) := by decide +kernel
theorem dX8_laySets_104 : decode cX8_laySets 104 = .ok (.aload_n 0, 1) := by decide +kernel
theorem dX8_laySets_105 : decode cX8_laySets 105 = .ok (.getfield 195, 3) := by decide +kernel
theorem dX8_laySets_108 : decode cX8_laySets 108 = .ok (.bipush (-9), 2) := by decide +kernel
theorem dX8_laySets_110 : decode cX8_laySets 110 = .ok (.if_icmp .eq 12, 3) := by decide +kernel
theorem dX8_laySets_113 : decode cX8_laySets 113 = .ok (.iload 5, 2) := by decide +kernel
theorem dX8_laySets_115 : decode cX8_laySets 115 = .ok (.aload_n 0, 1) := by decide +kernel
theorem dX8_laySets_116 : decode cX8_laySets 116 = .ok (.getfield 195, 3) := by decide +kernel
theorem dX8_laySets_119 : decode cX8_laySets 119 = .ok (.if_icmp .ge 8, 3) := by decide +kernel
theorem dX8_laySets_122 : decode cX8_laySets 122 = .ok (.iload 5, 2) := by decide +kernel
theorem dX8_laySets_124 : decode cX8_laySets 124 = .ok (.goto 7, 3) := by decide +kernel
theorem dX8_laySets_127 : decode cX8_laySets 127 = .ok (.aload_n 0, 1) := by decide +kernel
theorem dX8_laySets_128 : decode cX8_laySets 128 = .ok (.getfield 195, 3) := by decide +kernel
theorem dX8_laySets_131 : decode cX8_laySets 131 = .ok (.putfield 195, 3) := by decide +kernel
theorem dX8_laySets_134 : decode cX8_laySets 134 = .ok (.aload_n 0, 1) := by decide +kernel
theorem dX8_laySets_135 : decode cX8_laySets 135 = .ok (.iload 5, 2) := by decide +kernel
theorem dX8_laySets_137 : decode cX8_laySets 137 = .ok (.aload_n 0, 1) := by decide +kernel
theorem dX8_laySets_138 : decode cX8_laySets 138 = .ok (.getfield 198, 3) := by decide +kernel
theorem dX8_laySets_141 : decode cX8_laySets 141 = .ok (.if_icmp .le 8, 3) := by decide +kernel
theorem dX8_laySets_144 : decode cX8_laySets 144 = .ok (.iload 5, 2) := by decide +kernel
theorem dX8_laySets_146 : decode cX8_laySets 146 = .ok (.goto 7, 3) := by decide +kernel
theorem dX8_laySets_149 : decode cX8_laySets 149 = .ok (.aload_n 0, 1) := by decide +kernel
theorem dX8_laySets_150 : decode cX8_laySets 150 = .ok (.getfield 198, 3) := by decide +kernel
theorem dX8_laySets_153 : decode cX8_laySets 153 = .ok (.putfield 198, 3) := by decide +kernel
theorem dX8_laySets_156 : decode cX8_laySets 156 = .ok (.iconst 0, 1) := by decide +kernel
theorem dX8_laySets_157 : decode cX8_laySets 157 = .ok (.istore 6, 2) := by decide +kernel
theorem dX8_laySets_159 : decode cX8_laySets 159 = .ok (.iload 6, 2) := by decide +kernel
theorem dX8_laySets_161 : decode cX8_laySets 161 = .ok (.aload_n 0, 1) := by decide +kernel
theorem dX8_laySets_162 : decode cX8_laySets 162 = .ok (.getfield 72, 3) := by decide +kernel
theorem dX8_laySets_165 : decode cX8_laySets 165 = .ok (.if_icmp .ge 34, 3) := by decide +kernel
theorem dX8_laySets_168 : decode cX8_laySets 168 = .ok (.aload_n 0, 1) := by decide +kernel
theorem dX8_laySets_169 : decode cX8_laySets 169 = .ok (.getfield 63, 3) := by decide +kernel
theorem dX8_laySets_172 : decode cX8_laySets 172 = .ok (.iload 6, 2) := by decide +kernel
theorem dX8_laySets_174 : decode cX8_laySets 174 = .ok (.dup2, 1) := by decide +kernel
theorem dX8_laySets_175 : decode cX8_laySets 175 = .ok (.iaload, 1) := by decide +kernel
theorem dX8_laySets_176 : decode cX8_laySets 176 = .ok (.iload 4, 2) := by decide +kernel
theorem dX8_laySets_178 : decode cX8_laySets 178 = .ok (.iload 6, 2) := by decide +kernel
theorem dX8_laySets_180 : decode cX8_laySets 180 = .ok (.invokestatic 101, 3) := by decide +kernel
theorem dX8_laySets_183 : decode cX8_laySets 183 = .ok (.ifCond .eq 7, 3) := by decide +kernel
theorem dX8_laySets_186 : decode cX8_laySets 186 = .ok (.iconst 1, 1) := by decide +kernel
theorem dX8_laySets_187 : decode cX8_laySets 187 = .ok (.goto 4, 3) := by decide +kernel
theorem dX8_laySets_190 : decode cX8_laySets 190 = .ok (.iconst 0, 1) := by decide +kernel
theorem dX8_laySets_191 : decode cX8_laySets 191 = .ok (.iadd, 1) := by decide +kernel
theorem dX8_laySets_192 : decode cX8_laySets 192 = .ok (.iastore, 1) := by decide +kernel
theorem dX8_laySets_193 : decode cX8_laySets 193 = .ok (.iinc 6 1, 3) := by decide +kernel
theorem dX8_laySets_196 : decode cX8_laySets 196 = .ok (.goto (-37), 3) := by decide +kernel
theorem dX8_laySets_199 : decode cX8_laySets 199 = .ok (.iinc 4 1, 3) := by decide +kernel
theorem dX8_laySets_202 : decode cX8_laySets 202 = .ok (.goto (-152), 3) := by decide +kernel
theorem dX8_laySets_205 : decode cX8_laySets 205 = .ok (.return_, 1) := by decide +kernel
theorem dX8_spans_0 : decode cX8_spans 0 = .ok (.aload_n 0, 1) := by decide +kernel
theorem dX8_spans_1 : decode cX8_spans 1 = .ok (.iconst 0, 1) := by decide +kernel
theorem dX8_spans_2 : decode cX8_spans 2 = .ok (.putfield 69, 3) := by decide +kernel
theorem dX8_spans_5 : decode cX8_spans 5 = .ok (.aload_n 0, 1) := by decide +kernel
theorem dX8_spans_6 : decode cX8_spans 6 = .ok (.iload_n 1, 1) := by decide +kernel
theorem dX8_spans_7 : decode cX8_spans 7 = .ok (.invokevirtual 167, 3) := by decide +kernel
theorem dX8_spans_10 : decode cX8_spans 10 = .ok (.ifCond .eq 5, 3) := by decide +kernel
theorem dX8_spans_13 : decode cX8_spans 13 = .ok (.iconst (-1), 1) := by decide +kernel
theorem dX8_spans_14 : decode cX8_spans 14 = .ok (.ireturn, 1) := by decide +kernel
theorem dX8_spans_15 : decode cX8_spans 15 = .ok (.iload_n 2, 1) := by decide +kernel
theorem dX8_spans_16 : decode cX8_spans 16 = .ok (.i2l, 1) := by decide +kernel
theorem dX8_spans_17 : decode cX8_spans 17 = .ok (.lconst 0, 1) := by decide +kernel
theorem dX8_spans_18 : decode cX8_spans 18 = .ok (.ldc2_w 190, 3) := by decide +kernel
theorem dX8_spans_21 : decode cX8_spans 21 = .ok (.invokestatic 75, 3) := by decide +kernel
theorem dX8_spans_24 : decode cX8_spans 24 = .ok (.ifCond .eq 15, 3) := by decide +kernel
theorem dX8_spans_27 : decode cX8_spans 27 = .ok (.iload_n 3, 1) := by decide +kernel
theorem dX8_spans_28 : decode cX8_spans 28 = .ok (.i2l, 1) := by decide +kernel
theorem dX8_spans_29 : decode cX8_spans 29 = .ok (.lconst 0, 1) := by decide +kernel
theorem dX8_spans_30 : decode cX8_spans 30 = .ok (.ldc2_w 176, 3) := by decide +kernel
theorem dX8_spans_33 : decode cX8_spans 33 = .ok (.invokestatic 75, 3) := by decide +kernel
theorem dX8_spans_36 : decode cX8_spans 36 = .ok (.ifCond .ne 6, 3) := by decide +kernel
theorem dX8_spans_39 : decode cX8_spans 39 = .ok (.bipush (-2), 2) := by decide +kernel
theorem dX8_spans_41 : decode cX8_spans 41 = .ok (.ireturn, 1) := by decide +kernel
theorem dX8_spans_42 : decode cX8_spans 42 = .ok (.aload_n 0, 1) := by decide +kernel
theorem dX8_spans_43 : decode cX8_spans 43 = .ok (.iload_n 1, 1) := by decide +kernel
theorem dX8_spans_44 : decode cX8_spans 44 = .ok (.iload_n 2, 1) := by decide +kernel
theorem dX8_spans_45 : decode cX8_spans 45 = .ok (.invokevirtual 204, 3) := by decide +kernel
theorem dX8_spans_48 : decode cX8_spans 48 = .ok (.iload_n 3, 1) := by decide +kernel
theorem dX8_spans_49 : decode cX8_spans 49 = .ok (.ifCond .ne 10, 3) := by decide +kernel
theorem dX8_spans_52 : decode cX8_spans 52 = .ok (.aload_n 0, 1) := by decide +kernel
theorem dX8_spans_53 : decode cX8_spans 53 = .ok (.getfield 192, 3) := by decide +kernel
theorem dX8_spans_56 : decode cX8_spans 56 = .ok (.goto 19, 3) := by decide +kernel
theorem dX8_spans_59 : decode cX8_spans 59 = .ok (.iload_n 3, 1) := by decide +kernel
theorem dX8_spans_60 : decode cX8_spans 60 = .ok (.iconst 1, 1) := by decide +kernel
theorem dX8_spans_61 : decode cX8_spans 61 = .ok (.if_icmp .ne 10, 3) := by decide +kernel
theorem dX8_spans_64 : decode cX8_spans 64 = .ok (.aload_n 0, 1) := by decide +kernel
theorem dX8_spans_65 : decode cX8_spans 65 = .ok (.getfield 195, 3) := by decide +kernel
theorem dX8_spans_68 : decode cX8_spans 68 = .ok (.goto 7, 3) := by decide +kernel
theorem dX8_spans_71 : decode cX8_spans 71 = .ok (.aload_n 0, 1) := by decide +kernel
theorem dX8_spans_72 : decode cX8_spans 72 = .ok (.getfield 198, 3) := by decide +kernel
theorem dX8_spans_75 : decode cX8_spans 75 = .ok (.ireturn, 1) := by decide +kernel
theorem dX8_toAsk_0 : decode cX8_toAsk 0 = .ok (.aload_n 0, 1) := by decide +kernel
theorem dX8_toAsk_1 : decode cX8_toAsk 1 = .ok (.iconst 0, 1) := by decide +kernel
theorem dX8_toAsk_2 : decode cX8_toAsk 2 = .ok (.putfield 69, 3) := by decide +kernel
theorem dX8_toAsk_5 : decode cX8_toAsk 5 = .ok (.aload_n 0, 1) := by decide +kernel
theorem dX8_toAsk_6 : decode cX8_toAsk 6 = .ok (.iload_n 1, 1) := by decide +kernel
theorem dX8_toAsk_7 : decode cX8_toAsk 7 = .ok (.invokevirtual 167, 3) := by decide +kernel
theorem dX8_toAsk_10 : decode cX8_toAsk 10 = .ok (.ifCond .eq 5, 3) := by decide +kernel
theorem dX8_toAsk_13 : decode cX8_toAsk 13 = .ok (.iconst (-1), 1) := by decide +kernel
theorem dX8_toAsk_14 : decode cX8_toAsk 14 = .ok (.ireturn, 1) := by decide +kernel
theorem dX8_toAsk_15 : decode cX8_toAsk 15 = .ok (.iload_n 2, 1) := by decide +kernel
theorem dX8_toAsk_16 : decode cX8_toAsk 16 = .ok (.i2l, 1) := by decide +kernel
theorem dX8_toAsk_17 : decode cX8_toAsk 17 = .ok (.lconst 0, 1) := by decide +kernel
theorem dX8_toAsk_18 : decode cX8_toAsk 18 = .ok (.ldc2_w 190, 3) := by decide +kernel
theorem dX8_toAsk_21 : decode cX8_toAsk 21 = .ok (.invokestatic 75, 3) := by decide +kernel
theorem dX8_toAsk_24 : decode cX8_toAsk 24 = .ok (.ifCond .ne 6, 3) := by decide +kernel
theorem dX8_toAsk_27 : decode cX8_toAsk 27 = .ok (.bipush (-2), 2) := by decide +kernel
theorem dX8_toAsk_29 : decode cX8_toAsk 29 = .ok (.ireturn, 1) := by decide +kernel
theorem dX8_toAsk_30 : decode cX8_toAsk 30 = .ok (.aload_n 0, 1) := by decide +kernel
theorem dX8_toAsk_31 : decode cX8_toAsk 31 = .ok (.iload_n 1, 1) := by decide +kernel
theorem dX8_toAsk_32 : decode cX8_toAsk 32 = .ok (.iload_n 2, 1) := by decide +kernel
theorem dX8_toAsk_33 : decode cX8_toAsk 33 = .ok (.invokevirtual 204, 3) := by decide +kernel
theorem dX8_toAsk_36 : decode cX8_toAsk 36 = .ok (.bipush (-9), 2) := by decide +kernel
theorem dX8_toAsk_38 : decode cX8_toAsk 38 = .ok (.istore_n 3, 1) := by decide +kernel
theorem dX8_toAsk_39 : decode cX8_toAsk 39 = .ok (.bipush (-9), 2) := by decide +kernel
theorem dX8_toAsk_41 : decode cX8_toAsk 41 = .ok (.istore 4, 2) := by decide +kernel
theorem dX8_toAsk_43 : decode cX8_toAsk 43 = .ok (.iconst 0, 1) := by decide +kernel
theorem dX8_toAsk_44 : decode cX8_toAsk 44 = .ok (.istore 5, 2) := by decide +kernel
theorem dX8_toAsk_46 : decode cX8_toAsk 46 = .ok (.iload 5, 2) := by decide +kernel
theorem dX8_toAsk_48 : decode cX8_toAsk 48 = .ok (.aload_n 0, 1) := by decide +kernel
theorem dX8_toAsk_49 : decode cX8_toAsk 49 = .ok (.getfield 72, 3) := by decide +kernel
theorem dX8_toAsk_52 : decode cX8_toAsk 52 = .ok (.if_icmp .ge 87, 3) := by decide +kernel
theorem dX8_toAsk_55 : decode cX8_toAsk 55 = .ok (.aload_n 0, 1) := by decide +kernel
theorem dX8_toAsk_56 : decode cX8_toAsk 56 = .ok (.getfield 192, 3) := by decide +kernel
theorem dX8_toAsk_59 : decode cX8_toAsk 59 = .ok (.ifCond .le 80, 3) := by decide +kernel
theorem dX8_toAsk_62 : decode cX8_toAsk 62 = .ok (.aload_n 0, 1) := by decide +kernel
theorem dX8_toAsk_63 : decode cX8_toAsk 63 = .ok (.getfield 63, 3) := by decide +kernel
theorem dX8_toAsk_66 : decode cX8_toAsk 66 = .ok (.iload 5, 2) := by decide +kernel
theorem dX8_toAsk_68 : decode cX8_toAsk 68 = .ok (.iaload, 1) := by decide +kernel
theorem dX8_toAsk_69 : decode cX8_toAsk 69 = .ok (.aload_n 0, 1) := by decide +kernel
theorem dX8_toAsk_70 : decode cX8_toAsk 70 = .ok (.getfield 192, 3) := by decide +kernel
theorem dX8_toAsk_73 : decode cX8_toAsk 73 = .ok (.aload_n 0, 1) := by decide +kernel
theorem dX8_toAsk_74 : decode cX8_toAsk 74 = .ok (.getfield 63, 3) := by decide +kernel
theorem dX8_toAsk_77 : decode cX8_toAsk 77 = .ok (.iload 5, 2) := by decide +kernel
theorem dX8_toAsk_79 : decode cX8_toAsk 79 = .ok (.iaload, 1) := by decide +kernel
theorem dX8_toAsk_80 : decode cX8_toAsk 80 = .ok (.isub, 1) := by decide +kernel
theorem dX8_toAsk_81 : decode cX8_toAsk 81 = .ok (.if_icmp .ge 13, 3) := by decide +kernel
theorem dX8_toAsk_84 : decode cX8_toAsk 84 = .ok (.aload_n 0, 1) := by decide +kernel
theorem dX8_toAsk_85 : decode cX8_toAsk 85 = .ok (.getfield 63, 3) := by decide +kernel
theorem dX8_toAsk_88 : decode cX8_toAsk 88 = .ok (.iload 5, 2) := by decide +kernel
theorem dX8_toAsk_90 : decode cX8_toAsk 90 = .ok (.iaload, 1) := by decide +kernel
theorem dX8_toAsk_91 : decode cX8_toAsk 91 = .ok (.goto 15, 3) := by decide +kernel
theorem dX8_toAsk_94 : decode cX8_toAsk 94 = .ok (.aload_n 0, 1) := by decide +kernel
theorem dX8_toAsk_95 : decode cX8_toAsk 95 = .ok (.getfield 192, 3) := by decide +kernel
theorem dX8_toAsk_98 : decode cX8_toAsk 98 = .ok (.aload_n 0, 1) := by decide +kernel
theorem dX8_toAsk_99 : decode cX8_toAsk 99 = .ok (.getfield 63, 3) := by decide +kernel
theorem dX8_toAsk_102 : decode cX8_toAsk 102 = .ok (.iload 5, 2) := by decide +kernel
theorem dX8_toAsk_104 : decode cX8_toAsk 104 = .ok (.iaload, 1) := by decide +kernel
theorem dX8_toAsk_105 : decode cX8_toAsk 105 = .ok (.isub, 1) := by decide +kernel
theorem dX8_toAsk_106 : decode cX8_toAsk 106 = .ok (.istore 6, 2) := by decide +kernel
theorem dX8_toAsk_108 : decode cX8_toAsk 108 = .ok (.aload_n 0, 1) := by decide +kernel
theorem dX8_toAsk_109 : decode cX8_toAsk 109 = .ok (.getfield 17, 3) := by decide +kernel
theorem dX8_toAsk_112 : decode cX8_toAsk 112 = .ok (.iload 5, 2) := by decide +kernel
theorem dX8_toAsk_114 : decode cX8_toAsk 114 = .ok (.iaload, 1) := by decide +kernel
theorem dX8_toAsk_115 : decode cX8_toAsk 115 = .ok (.iload_n 1, 1) := by decide +kernel
theorem dX8_toAsk_116 : decode cX8_toAsk 116 = .ok (.if_icmp .ne 17, 3) := by decide +kernel
theorem dX8_toAsk_119 : decode cX8_toAsk 119 = .ok (.iload 6, 2) := by decide +kernel
theorem dX8_toAsk_121 : decode cX8_toAsk 121 = .ok (.iload 4, 2) := by decide +kernel
theorem dX8_toAsk_123 : decode cX8_toAsk 123 = .ok (.if_icmp .le 10, 3) := by decide +kernel
theorem dX8_toAsk_126 : decode cX8_toAsk 126 = .ok (.iload 5, 2) := by decide +kernel
theorem dX8_toAsk_128 : decode cX8_toAsk 128 = .ok (.istore_n 3, 1) := by decide +kernel
theorem dX8_toAsk_129 : decode cX8_toAsk 129 = .ok (.iload 6, 2) := by decide +kernel
theorem dX8_toAsk_131 : decode cX8_toAsk 131 = .ok (.istore 4, 2) := by decide +kernel
theorem dX8_toAsk_133 : decode cX8_toAsk 133 = .ok (.iinc 5 1, 3) := by decide +kernel
theorem dX8_toAsk_136 : decode cX8_toAsk 136 = .ok (.goto (-90), 3) := by decide +kernel
theorem dX8_toAsk_139 : decode cX8_toAsk 139 = .ok (.iload_n 3, 1) := by decide +kernel
theorem dX8_toAsk_140 : decode cX8_toAsk 140 = .ok (.ireturn, 1) := by decide +kernel
theorem dX8_countIn_0 : decode cX8_countIn 0 = .ok (.iconst 0, 1) := by decide +kernel
theorem dX8_countIn_1 : decode cX8_countIn 1 = .ok (.istore_n 3, 1) := by decide +kernel
theorem dX8_countIn_2 : decode cX8_countIn 2 = .ok (.iconst 0, 1) := by decide +kernel
theorem dX8_countIn_3 : decode cX8_countIn 3 = .ok (.istore 4, 2) := by decide +kernel
theorem dX8_countIn_5 : decode cX8_countIn 5 = .ok (.iconst 0, 1) := by decide +kernel
theorem dX8_countIn_6 : decode cX8_countIn 6 = .ok (.istore 5, 2) := by decide +kernel
theorem dX8_countIn_8 : decode cX8_countIn 8 = .ok (.iload 5, 2) := by decide +kernel
theorem dX8_countIn_10 : decode cX8_countIn 10 = .ok (.aload_n 0, 1) := by decide +kernel
theorem dX8_countIn_11 : decode cX8_countIn 11 = .ok (.getfield 72, 3) := by decide +kernel
theorem dX8_countIn_14 : decode cX8_countIn 14 = .ok (.if_icmp .ge 164, 3) := by decide +kernel
theorem dX8_countIn_17 : decode cX8_countIn 17 = .ok (.iload_n 1, 1) := by decide +kernel
theorem dX8_countIn_18 : decode cX8_countIn 18 = .ok (.iload 5, 2) := by decide +kernel
theorem dX8_countIn_20 : decode cX8_countIn 20 = .ok (.invokestatic 101, 3) := by decide +kernel
theorem dX8_countIn_23 : decode cX8_countIn 23 = .ok (.ifCond .eq 28, 3) := by decide +kernel
theorem dX8_countIn_26 : decode cX8_countIn 26 = .ok (.aload_n 0, 1) := by decide +kernel
theorem dX8_countIn_27 : decode cX8_countIn 27 = .ok (.getfield 66, 3) := by decide +kernel
theorem dX8_countIn_30 : decode cX8_countIn 30 = .ok (.iload 5, 2) := by decide +kernel
theorem dX8_countIn_32 : decode cX8_countIn 32 = .ok (.iaload, 1) := by decide +kernel
theorem dX8_countIn_33 : decode cX8_countIn 33 = .ok (.ifCond .eq 14, 3) := by decide +kernel
theorem dX8_countIn_36 : decode cX8_countIn 36 = .ok (.aload_n 0, 1) := by decide +kernel
theorem dX8_countIn_37 : decode cX8_countIn 37 = .ok (.getfield 66, 3) := by decide +kernel
theorem dX8_countIn_40 : decode cX8_countIn 40 = .ok (.iload 5, 2) := by decide +kernel
theorem dX8_countIn_42 : decode cX8_countIn 42 = .ok (.iaload, 1) := by decide +kernel
theorem dX8_countIn_43 : decode cX8_countIn 43 = .ok (.iload_n 2, 1) := by decide +kernel
theorem dX8_countIn_44 : decode cX8_countIn 44 = .ok (.if_icmp .le 7, 3) := by decide +kernel
theorem dX8_countIn_47 : decode cX8_countIn 47 = .ok (.iconst 1, 1) := by decide +kernel
theorem dX8_countIn_48 : decode cX8_countIn 48 = .ok (.goto 4, 3) := by decide +kernel
theorem dX8_countIn_51 : decode cX8_countIn 51 = .ok (.iconst 0, 1) := by decide +kernel
theorem dX8_countIn_52 : decode cX8_countIn 52 = .ok (.istore 6, 2) := by decide +kernel
theorem dX8_countIn_54 : decode cX8_countIn 54 = .ok (.iconst 0, 1) := by decide +kernel
theorem dX8_countIn_55 : decode cX8_countIn 55 = .ok (.istore 7, 2) := by decide +kernel
theorem dX8_countIn_57 : decode cX8_countIn 57 = .ok (.iload 7, 2) := by decide +kernel
theorem dX8_countIn_59 : decode cX8_countIn 59 = .ok (.aload_n 0, 1) := by decide +kernel
theorem dX8_countIn_60 : decode cX8_countIn 60 = .ok (.getfield 72, 3) := by decide +kernel
theorem dX8_countIn_63 : decode cX8_countIn 63 = .ok (.if_icmp .ge 109, 3) := by decide +kernel
theorem dX8_countIn_66 : decode cX8_countIn 66 = .ok (.iload 6, 2) := by decide +kernel
theorem dX8_countIn_68 : decode cX8_countIn 68 = .ok (.ifCond .eq 104, 3) := by decide +kernel
theorem dX8_countIn_71 : decode cX8_countIn 71 = .ok (.iload_n 1, 1) := by decide +kernel
theorem dX8_countIn_72 : decode cX8_countIn 72 = .ok (.aload_n 0, 1) := by decide +kernel
theorem dX8_countIn_73 : decode cX8_countIn 73 = .ok (.getfield 26, 3) := by decide +kernel
theorem dX8_countIn_76 : decode cX8_countIn 76 = .ok (.iload 5, 2) := by decide +kernel
theorem dX8_countIn_78 : decode cX8_countIn 78 = .ok (.iaload, 1) := by decide +kernel
theorem dX8_countIn_79 : decode cX8_countIn 79 = .ok (.iand, 1) := by decide +kernel
theorem dX8_countIn_80 : decode cX8_countIn 80 = .ok (.iload 7, 2) := by decide +kernel
theorem dX8_countIn_82 : decode cX8_countIn 82 = .ok (.invokestatic 101, 3) := by decide +kernel
theorem dX8_countIn_85 : decode cX8_countIn 85 = .ok (.ifCond .eq 47, 3) := by decide +kernel
theorem dX8_countIn_88 : decode cX8_countIn 88 = .ok (.aload_n 0, 1) := by decide +kernel
theorem dX8_countIn_89 : decode cX8_countIn 89 = .ok (.getfield 66, 3) := by decide +kernel
theorem dX8_countIn_92 : decode cX8_countIn 92 = .ok (.iload 7, 2) := by decide +kernel
theorem dX8_countIn_94 : decode cX8_countIn 94 = .ok (.iaload, 1) := by decide +kernel
theorem dX8_countIn_95 : decode cX8_countIn 95 = .ok (.ifCond .le 37, 3) := by decide +kernel
theorem dX8_countIn_98 : decode cX8_countIn 98 = .ok (.aload_n 0, 1) := by decide +kernel
theorem dX8_countIn_99 : decode cX8_countIn 99 = .ok (.getfield 66, 3) := by decide +kernel
theorem dX8_countIn_102 : decode cX8_countIn 102 = .ok (.iload 7, 2) := by decide +kernel
theorem dX8_countIn_104 : decode cX8_countIn 104 = .ok (.iaload, 1) := by decide +kernel
theorem dX8_countIn_105 : decode cX8_countIn 105 = .ok (.iload_n 2, 1) := by decide +kernel
theorem dX8_countIn_106 : decode cX8_countIn 106 = .ok (.if_icmp .gt 26, 3) := by decide +kernel
theorem dX8_countIn_109 : decode cX8_countIn 109 = .ok (.iload_n 2, 1) := by decide +kernel
theorem dX8_countIn_110 : decode cX8_countIn 110 = .ok (.aload_n 0, 1) := by decide +kernel
theorem dX8_countIn_111 : decode cX8_countIn 111 = .ok (.getfield 66, 3) := by decide +kernel
theorem dX8_countIn_114 : decode cX8_countIn 114 = .ok (.iload 7, 2) := by decide +kernel
theorem dX8_countIn_116 : decode cX8_countIn 116 = .ok (.iaload, 1) := by decide +kernel
theorem dX8_countIn_117 : decode cX8_countIn 117 = .ok (.isub, 1) := by decide +kernel
theorem dX8_countIn_118 : decode cX8_countIn 118 = .ok (.aload_n 0, 1) := by decide +kernel
theorem dX8_countIn_119 : decode cX8_countIn 119 = .ok (.getfield 23, 3) := by decide +kernel
theorem dX8_countIn_122 : decode cX8_countIn 122 = .ok (.iload 5, 2) := by decide +kernel
theorem dX8_countIn_124 : decode cX8_countIn 124 = .ok (.iaload, 1) := by decide +kernel
theorem dX8_countIn_125 : decode cX8_countIn 125 = .ok (.if_icmp .gt 7, 3) := by decide +kernel
theorem dX8_countIn_128 : decode cX8_countIn 128 = .ok (.iconst 1, 1) := by decide +kernel
theorem dX8_countIn_129 : decode cX8_countIn 129 = .ok (.goto 4, 3) := by decide +kernel
theorem dX8_countIn_132 : decode cX8_countIn 132 = .ok (.iconst 0, 1) := by decide +kernel
theorem dX8_countIn_133 : decode cX8_countIn 133 = .ok (.istore 8, 2) := by decide +kernel
theorem dX8_countIn_135 : decode cX8_countIn 135 = .ok (.iload_n 3, 1) := by decide +kernel
theorem dX8_countIn_136 : decode cX8_countIn 136 = .ok (.iload 8, 2) := by decide +kernel
theorem dX8_countIn_138 : decode cX8_countIn 138 = .ok (.ifCond .eq 7, 3) := by decide +kernel
theorem dX8_countIn_141 : decode cX8_countIn 141 = .ok (.iconst 1, 1) := by decide +kernel
theorem dX8_countIn_142 : decode cX8_countIn 142 = .ok (.goto 4, 3) := by decide +kernel
theorem dX8_countIn_145 : decode cX8_countIn 145 = .ok (.iconst 0, 1) := by decide +kernel
theorem dX8_countIn_146 : decode cX8_countIn 146 = .ok (.iadd, 1) := by decide +kernel
theorem dX8_countIn_147 : decode cX8_countIn 147 = .ok (.istore_n 3, 1) := by decide +kernel
theorem dX8_countIn_148 : decode cX8_countIn 148 = .ok (.iload 4, 2) := by decide +kernel
theorem dX8_countIn_150 : decode cX8_countIn 150 = .ok (.iload 8, 2) := by decide +kernel
theorem dX8_countIn_152 : decode cX8_countIn 152 = .ok (.ifCond .eq 10, 3) := by decide +kernel
theorem dX8_countIn_155 : decode cX8_countIn 155 = .ok (.iconst 1, 1) := by decide +kernel
theorem dX8_countIn_156 : decode cX8_countIn 156 = .ok (.iload 7, 2) := by decide +kernel
theorem dX8_countIn_158 : decode cX8_countIn 158 = .ok (.ishl, 1) := by decide +kernel
theorem dX8_countIn_159 : decode cX8_countIn 159 = .ok (.goto 4, 3) := by decide +kernel
theorem dX8_countIn_162 : decode cX8_countIn 162 = .ok (.iconst 0, 1) := by decide +kernel
theorem dX8_countIn_163 : decode cX8_countIn 163 = .ok (.ior, 1) := by decide +kernel
theorem dX8_countIn_164 : decode cX8_countIn 164 = .ok (.istore 4, 2) := by decide +kernel
theorem dX8_countIn_166 : decode cX8_countIn 166 = .ok (.iinc 7 1, 3) := by decide +kernel
theorem dX8_countIn_169 : decode cX8_countIn 169 = .ok (.goto (-112), 3) := by decide +kernel
theorem dX8_countIn_172 : decode cX8_countIn 172 = .ok (.iinc 5 1, 3) := by decide +kernel
theorem dX8_countIn_175 : decode cX8_countIn 175 = .ok (.goto (-167), 3) := by decide +kernel
theorem dX8_countIn_178 : decode cX8_countIn 178 = .ok (.aload_n 0, 1) := by decide +kernel
theorem dX8_countIn_179 : decode cX8_countIn 179 = .ok (.iload_n 3, 1) := by decide +kernel
theorem dX8_countIn_180 : decode cX8_countIn 180 = .ok (.iload 4, 2) := by decide +kernel
theorem dX8_countIn_182 : decode cX8_countIn 182 = .ok (.invokevirtual 158, 3) := by decide +kernel
theorem dX8_countIn_185 : decode cX8_countIn 185 = .ok (.ireturn, 1) := by decide +kernel
theorem dX8_retold_0 : decode cX8_retold 0 = .ok (.aload_n 0, 1) := by decide +kernel
theorem dX8_retold_1 : decode cX8_retold 1 = .ok (.iconst 0, 1) := by decide +kernel
theorem dX8_retold_2 : decode cX8_retold 2 = .ok (.putfield 69, 3) := by decide +kernel
theorem dX8_retold_5 : decode cX8_retold 5 = .ok (.aload_n 0, 1) := by decide +kernel
theorem dX8_retold_6 : decode cX8_retold 6 = .ok (.iload_n 1, 1) := by decide +kernel
theorem dX8_retold_7 : decode cX8_retold 7 = .ok (.invokevirtual 167, 3) := by decide +kernel
theorem dX8_retold_10 : decode cX8_retold 10 = .ok (.ifCond .eq 5, 3) := by decide +kernel
theorem dX8_retold_13 : decode cX8_retold 13 = .ok (.iconst (-1), 1) := by decide +kernel
theorem dX8_retold_14 : decode cX8_retold 14 = .ok (.ireturn, 1) := by decide +kernel
theorem dX8_retold_15 : decode cX8_retold 15 = .ok (.iload_n 2, 1) := by decide +kernel
theorem dX8_retold_16 : decode cX8_retold 16 = .ok (.iconst 1, 1) := by decide +kernel
theorem dX8_retold_17 : decode cX8_retold 17 = .ok (.if_icmp .ne 8, 3) := by decide +kernel
theorem dX8_retold_20 : decode cX8_retold 20 = .ok (.bipush 10, 2) := by decide +kernel
theorem dX8_retold_22 : decode cX8_retold 22 = .ok (.goto 25, 3) := by decide +kernel
theorem dX8_retold_25 : decode cX8_retold 25 = .ok (.iload_n 2, 1) := by decide +kernel
theorem dX8_retold_26 : decode cX8_retold 26 = .ok (.iconst 2, 1) := by decide +kernel
theorem dX8_retold_27 : decode cX8_retold 27 = .ok (.if_icmp .ne 8, 3) := by decide +kernel
theorem dX8_retold_30 : decode cX8_retold 30 = .ok (.bipush 100, 2) := by decide +kernel
theorem dX8_retold_32 : decode cX8_retold 32 = .ok (.goto 15, 3) := by decide +kernel
theorem dX8_retold_35 : decode cX8_retold 35 = .ok (.iload_n 2, 1) := by decide +kernel
theorem dX8_retold_36 : decode cX8_retold 36 = .ok (.iconst 3, 1) := by decide +kernel
theorem dX8_retold_37 : decode cX8_retold 37 = .ok (.if_icmp .ne 9, 3) := by decide +kernel
theorem dX8_retold_40 : decode cX8_retold 40 = .ok (.sipush 1000, 3) := by decide +kernel
theorem dX8_retold_43 : decode cX8_retold 43 = .ok (.goto 4, 3) := by decide +kernel
theorem dX8_retold_46 : decode cX8_retold 46 = .ok (.iconst 0, 1) := by decide +kernel
theorem dX8_retold_47 : decode cX8_retold 47 = .ok (.istore 5, 2) := by decide +kernel
theorem dX8_retold_49 : decode cX8_retold 49 = .ok (.iload_n 3, 1) := by decide +kernel
theorem dX8_retold_50 : decode cX8_retold 50 = .ok (.i2l, 1) := by decide +kernel
theorem dX8_retold_51 : decode cX8_retold 51 = .ok (.lconst 0, 1) := by decide +kernel
theorem dX8_retold_52 : decode cX8_retold 52 = .ok (.iload 5, 2) := by decide +kernel
theorem dX8_retold_54 : decode cX8_retold 54 = .ok (.iconst 1, 1) := by decide +kernel
theorem dX8_retold_55 : decode cX8_retold 55 = .ok (.isub, 1) := by decide +kernel
theorem dX8_retold_56 : decode cX8_retold 56 = .ok (.i2l, 1) := by decide +kernel
theorem dX8_retold_57 : decode cX8_retold 57 = .ok (.invokestatic 75, 3) := by decide +kernel
theorem dX8_retold_60 : decode cX8_retold 60 = .ok (.ifCond .eq 14, 3) := by decide +kernel
theorem dX8_retold_63 : decode cX8_retold 63 = .ok (.iload 4, 2) := by decide +kernel
theorem dX8_retold_65 : decode cX8_retold 65 = .ok (.i2l, 1) := by decide +kernel
theorem dX8_retold_66 : decode cX8_retold 66 = .ok (.lconst 0, 1) := by decide +kernel
theorem dX8_retold_67 : decode cX8_retold 67 = .ok (.lconst 1, 1) := by decide +kernel
theorem dX8_retold_68 : decode cX8_retold 68 = .ok (.invokestatic 75, 3) := by decide +kernel
theorem dX8_retold_71 : decode cX8_retold 71 = .ok (.ifCond .ne 6, 3) := by decide +kernel
theorem dX8_retold_74 : decode cX8_retold 74 = .ok (.bipush (-2), 2) := by decide +kernel
theorem dX8_retold_76 : decode cX8_retold 76 = .ok (.ireturn, 1) := by decide +kernel
theorem dX8_retold_77 : decode cX8_retold 77 = .ok (.aload_n 0, 1) := by decide +kernel
theorem dX8_retold_78 : decode cX8_retold 78 = .ok (.iload_n 1, 1) := by decide +kernel
theorem dX8_retold_79 : decode cX8_retold 79 = .ok (.invokevirtual 173, 3) := by decide +kernel
theorem dX8_retold_82 : decode cX8_retold 82 = .ok (.istore 6, 2) := by decide +kernel
theorem dX8_retold_84 : decode cX8_retold 84 = .ok (.iload 6, 2) := by decide +kernel
theorem dX8_retold_86 : decode cX8_retold 86 = .ok (.invokestatic 151, 3) := by decide +kernel
theorem dX8_retold_89 : decode cX8_retold 89 = .ok (.bipush 6, 2) := by decide +kernel
theorem dX8_retold_91 : decode cX8_retold 91 = .ok (.if_icmp .le 6, 3) := by decide +kernel
theorem dX8_retold_94 : decode cX8_retold 94 = .ok (.bipush (-3), 2) := by decide +kernel
theorem dX8_retold_96 : decode cX8_retold 96 = .ok (.ireturn, 1) := by decide +kernel
theorem dX8_retold_97 : decode cX8_retold 97 = .ok (.iconst 1, 1) := by decide +kernel
theorem dX8_retold_98 : decode cX8_retold 98 = .ok (.istore 7, 2) := by decide +kernel
theorem dX8_retold_100 : decode cX8_retold 100 = .ok (.iconst 0, 1) := by decide +kernel
theorem dX8_retold_101 : decode cX8_retold 101 = .ok (.istore 8, 2) := by decide +kernel
theorem dX8_retold_103 : decode cX8_retold 103 = .ok (.iload 8, 2) := by decide +kernel
theorem dX8_retold_105 : decode cX8_retold 105 = .ok (.iload 6, 2) := by decide +kernel
theorem dX8_retold_107 : decode cX8_retold 107 = .ok (.invokestatic 151, 3) := by decide +kernel
theorem dX8_retold_110 : decode cX8_retold 110 = .ok (.if_icmp .ge 17, 3) := by decide +kernel
theorem dX8_retold_113 : decode cX8_retold 113 = .ok (.iload 7, 2) := by decide +kernel
theorem dX8_retold_115 : decode cX8_retold 115 = .ok (.iload_n 2, 1) := by decide +kernel
theorem dX8_retold_116 : decode cX8_retold 116 = .ok (.iconst 1, 1) := by decide +kernel
theorem dX8_retold_117 : decode cX8_retold 117 = .ok (.iadd, 1) := by decide +kernel
theorem dX8_retold_118 : decode cX8_retold 118 = .ok (.imul, 1) := by decide +kernel
theorem dX8_retold_119 : decode cX8_retold 119 = .ok (.istore 7, 2) := by decide +kernel
theorem dX8_retold_121 : decode cX8_retold 121 = .ok (.iinc 8 1, 3) := by decide +kernel
theorem dX8_retold_124 : decode cX8_retold 124 = .ok (.goto (-21), 3) := by decide +kernel
theorem dX8_retold_127 : decode cX8_retold 127 = .ok (.iconst 0, 1) := by decide +kernel
theorem dX8_retold_128 : decode cX8_retold 128 = .ok (.istore 8, 2) := by decide +kernel
theorem dX8_retold_130 : decode cX8_retold 130 = .ok (.bipush (-9), 2) := by decide +kernel
theorem dX8_retold_132 : decode cX8_retold 132 = .ok (.istore 9, 2) := by decide +kernel
theorem dX8_retold_134 : decode cX8_retold 134 = .ok (.iconst 0, 1) := by decide +kernel
theorem dX8_retold_135 : decode cX8_retold 135 = .ok (.istore 10, 2) := by decide +kernel
theorem dX8_retold_137 : decode cX8_retold 137 = .ok (.iload 10, 2) := by decide +kernel
theorem dX8_retold_139 : decode cX8_retold 139 = .ok (.iload 7, 2) := by decide +kernel
theorem dX8_retold_141 : decode cX8_retold 141 = .ok (.if_icmp .ge 192, 3) := by decide +kernel
theorem dX8_retold_144 : decode cX8_retold 144 = .ok (.iload 10, 2) := by decide +kernel
theorem dX8_retold_146 : decode cX8_retold 146 = .ok (.istore 11, 2) := by decide +kernel
theorem dX8_retold_148 : decode cX8_retold 148 = .ok (.iconst 0, 1) := by decide +kernel
theorem dX8_retold_149 : decode cX8_retold 149 = .ok (.istore 12, 2) := by decide +kernel
theorem dX8_retold_151 : decode cX8_retold 151 = .ok (.iconst 0, 1) := by decide +kernel
theorem dX8_retold_152 : decode cX8_retold 152 = .ok (.istore 13, 2) := by decide +kernel
theorem dX8_retold_154 : decode cX8_retold 154 = .ok (.iload 13, 2) := by decide +kernel
theorem dX8_retold_156 : decode cX8_retold 156 = .ok (.aload_n 0, 1) := by decide +kernel
theorem dX8_retold_157 : decode cX8_retold 157 = .ok (.getfield 72, 3) := by decide +kernel
theorem dX8_retold_160 : decode cX8_retold 160 = .ok (.if_icmp .ge 81, 3) := by decide +kernel
theorem dX8_retold_163 : decode cX8_retold 163 = .ok (.aload_n 0, 1) := by decide +kernel
theorem dX8_retold_164 : decode cX8_retold 164 = .ok (.getfield 66, 3) := by decide +kernel
theorem dX8_retold_167 : decode cX8_retold 167 = .ok (.iload 13, 2) := by decide +kernel
theorem dX8_retold_169 : decode cX8_retold 169 = .ok (.iload 6, 2) := by decide +kernel
theorem dX8_retold_171 : decode cX8_retold 171 = .ok (.iload 13, 2) := by decide +kernel
theorem dX8_retold_173 : decode cX8_retold 173 = .ok (.invokestatic 101, 3) := by decide +kernel
theorem dX8_retold_176 : decode cX8_retold 176 = .ok (.ifCond .eq 12, 3) := by decide +kernel
theorem dX8_retold_179 : decode cX8_retold 179 = .ok (.iload 11, 2) := by decide +kernel
theorem dX8_retold_181 : decode cX8_retold 181 = .ok (.iload_n 2, 1) := by decide +kernel
theorem dX8_retold_182 : decode cX8_retold 182 = .ok (.iconst 1, 1) := by decide +kernel
theorem dX8_retold_183 : decode cX8_retold 183 = .ok (.iadd, 1) := by decide +kernel
theorem dX8_retold_184 : decode cX8_retold 184 = .ok (.irem, 1) := by decide +kernel
theorem dX8_retold_185 : decode cX8_retold 185 = .ok (.goto 4, 3) := by decide +kernel
theorem dX8_retold_188 : decode cX8_retold 188 = .ok (.iconst 0, 1) := by decide +kernel
theorem dX8_retold_189 : decode cX8_retold 189 = .ok (.iastore, 1) := by decide +kernel
theorem dX8_retold_190 : decode cX8_retold 190 = .ok (.iload 11, 2) := by decide +kernel
theorem dX8_retold_192 : decode cX8_retold 192 = .ok (.iload 6, 2) := by decide +kernel
theorem dX8_retold_194 : decode cX8_retold 194 = .ok (.iload 13, 2) := by decide +kernel
theorem dX8_retold_196 : decode cX8_retold 196 = .ok (.invokestatic 101, 3) := by decide +kernel
theorem dX8_retold_199 : decode cX8_retold 199 = .ok (.ifCond .eq 9, 3) := by decide +kernel
theorem dX8_retold_202 : decode cX8_retold 202 = .ok (.iload_n 2, 1) := by decide +kernel
theorem dX8_retold_203 : decode cX8_retold 203 = .ok (.iconst 1, 1) := by decide +kernel
theorem dX8_retold_204 : decode cX8_retold 204 = .ok (.iadd, 1) := by decide +kernel
theorem dX8_retold_205 : decode cX8_retold 205 = .ok (.goto 4, 3) := by decide +kernel
theorem dX8_retold_208 : decode cX8_retold 208 = .ok (.iconst 1, 1) := by decide +kernel
theorem dX8_retold_209 : decode cX8_retold 209 = .ok (.idiv, 1) := by decide +kernel
theorem dX8_retold_210 : decode cX8_retold 210 = .ok (.istore 11, 2) := by decide +kernel
theorem dX8_retold_212 : decode cX8_retold 212 = .ok (.iload 12, 2) := by decide +kernel
theorem dX8_retold_214 : decode cX8_retold 214 = .ok (.aload_n 0, 1) := by decide +kernel
theorem dX8_retold_215 : decode cX8_retold 215 = .ok (.getfield 66, 3) := by decide +kernel
theorem dX8_retold_218 : decode cX8_retold 218 = .ok (.iload 13, 2) := by decide +kernel
theorem dX8_retold_220 : decode cX8_retold 220 = .ok (.iaload, 1) := by decide +kernel
theorem dX8_retold_221 : decode cX8_retold 221 = .ok (.ifCond .le 10, 3) := by decide +kernel
theorem dX8_retold_224 : decode cX8_retold 224 = .ok (.iconst 1, 1) := by decide +kernel
theorem dX8_retold_225 : decode cX8_retold 225 = .ok (.iload 13, 2) := by decide +kernel
theorem dX8_retold_227 : decode cX8_retold 227 = .ok (.ishl, 1) := by decide +kernel
theorem dX8_retold_228 : decode cX8_retold 228 = .ok (.goto 4, 3) := by decide +kernel
theorem dX8_retold_231 : decode cX8_retold 231 = .ok (.iconst 0, 1) := by decide +kernel
theorem dX8_retold_232 : decode cX8_retold 232 = .ok (.ior, 1) := by decide +kernel
theorem dX8_retold_233 : decode cX8_retold 233 = .ok (.istore 12, 2) := by decide +kernel
theorem dX8_retold_235 : decode cX8_retold 235 = .ok (.iinc 13 1, 3) := by decide +kernel
theorem dX8_retold_238 : decode cX8_retold 238 = .ok (.goto (-84), 3) := by decide +kernel
theorem dX8_retold_241 : decode cX8_retold 241 = .ok (.iconst 1, 1) := by decide +kernel
theorem dX8_retold_242 : decode cX8_retold 242 = .ok (.istore 13, 2) := by decide +kernel
theorem dX8_retold_244 : decode cX8_retold 244 = .ok (.iload 5, 2) := by decide +kernel
theorem dX8_retold_246 : decode cX8_retold 246 = .ok (.istore 14, 2) := by decide +kernel
theorem dX8_retold_248 : decode cX8_retold 248 = .ok (.iconst 1, 1) := by decide +kernel
theorem dX8_retold_249 : decode cX8_retold 249 = .ok (.istore 15, 2) := by decide +kernel
theorem dX8_retold_251 : decode cX8_retold 251 = .ok (.iload 15, 2) := by decide +kernel
theorem dX8_retold_253 : decode cX8_retold 253 = .ok (.iload_n 2, 1) := by decide +kernel
theorem dX8_retold_254 : decode cX8_retold 254 = .ok (.if_icmp .gt 46, 3) := by decide +kernel
theorem dX8_retold_257 : decode cX8_retold 257 = .ok (.iload 13, 2) := by decide +kernel
theorem dX8_retold_259 : decode cX8_retold 259 = .ok (.ifCond .eq 41, 3) := by decide +kernel
theorem dX8_retold_262 : decode cX8_retold 262 = .ok (.iload 14, 2) := by decide +kernel
theorem dX8_retold_264 : decode cX8_retold 264 = .ok (.bipush 10, 2) := by decide +kernel
theorem dX8_retold_266 : decode cX8_retold 266 = .ok (.idiv, 1) := by decide +kernel
theorem dX8_retold_267 : decode cX8_retold 267 = .ok (.istore 14, 2) := by decide +kernel
theorem dX8_retold_269 : decode cX8_retold 269 = .ok (.aload_n 0, 1) := by decide +kernel
theorem dX8_retold_270 : decode cX8_retold 270 = .ok (.iload 6, 2) := by decide +kernel
theorem dX8_retold_272 : decode cX8_retold 272 = .ok (.iload 15, 2) := by decide +kernel
theorem dX8_retold_274 : decode cX8_retold 274 = .ok (.invokevirtual 208, 3) := by decide +kernel
theorem dX8_retold_277 : decode cX8_retold 277 = .ok (.iload_n 3, 1) := by decide +kernel
theorem dX8_retold_278 : decode cX8_retold 278 = .ok (.iload 14, 2) := by decide +kernel
theorem dX8_retold_280 : decode cX8_retold 280 = .ok (.idiv, 1) := by decide +kernel
theorem dX8_retold_281 : decode cX8_retold 281 = .ok (.bipush 10, 2) := by decide +kernel
theorem dX8_retold_283 : decode cX8_retold 283 = .ok (.irem, 1) := by decide +kernel
theorem dX8_retold_284 : decode cX8_retold 284 = .ok (.if_icmp .ne 7, 3) := by decide +kernel
theorem dX8_retold_287 : decode cX8_retold 287 = .ok (.iconst 1, 1) := by decide +kernel
theorem dX8_retold_288 : decode cX8_retold 288 = .ok (.goto 4, 3) := by decide +kernel
theorem dX8_retold_291 : decode cX8_retold 291 = .ok (.iconst 0, 1) := by decide +kernel
theorem dX8_retold_292 : decode cX8_retold 292 = .ok (.istore 13, 2) := by decide +kernel
theorem dX8_retold_294 : decode cX8_retold 294 = .ok (.iinc 15 1, 3) := by decide +kernel
theorem dX8_retold_297 : decode cX8_retold 297 = .ok (.goto (-46), 3) := by decide +kernel
theorem dX8_retold_300 : decode cX8_retold 300 = .ok (.iload 13, 2) := by decide +kernel
theorem dX8_retold_302 : decode cX8_retold 302 = .ok (.ifCond .eq 25, 3) := by decide +kernel
theorem dX8_retold_305 : decode cX8_retold 305 = .ok (.iinc 8 1, 3) := by decide +kernel
theorem dX8_retold_308 : decode cX8_retold 308 = .ok (.iload 9, 2) := by decide +kernel
theorem dX8_retold_310 : decode cX8_retold 310 = .ok (.bipush (-9), 2) := by decide +kernel
theorem dX8_retold_312 : decode cX8_retold 312 = .ok (.if_icmp .ne 8, 3) := by decide +kernel
theorem dX8_retold_315 : decode cX8_retold 315 = .ok (.iload 12, 2) := by decide +kernel
theorem dX8_retold_317 : decode cX8_retold 317 = .ok (.goto 8, 3) := by decide +kernel
theorem dX8_retold_320 : decode cX8_retold 320 = .ok (.iload 9, 2) := by decide +kernel
theorem dX8_retold_322 : decode cX8_retold 322 = .ok (.iload 12, 2) := by decide +kernel
theorem dX8_retold_324 : decode cX8_retold 324 = .ok (.iand, 1) := by decide +kernel
theorem dX8_retold_325 : decode cX8_retold 325 = .ok (.istore 9, 2) := by decide +kernel
theorem dX8_retold_327 : decode cX8_retold 327 = .ok (.iinc 10 1, 3) := by decide +kernel
theorem dX8_retold_330 : decode cX8_retold 330 = .ok (.goto (-193), 3) := by decide +kernel
theorem dX8_retold_333 : decode cX8_retold 333 = .ok (.iload 4, 2) := by decide +kernel
theorem dX8_retold_335 : decode cX8_retold 335 = .ok (.ifCond .ne 8, 3) := by decide +kernel
theorem dX8_retold_338 : decode cX8_retold 338 = .ok (.iload 8, 2) := by decide +kernel
theorem dX8_retold_340 : decode cX8_retold 340 = .ok (.goto 5, 3) := by decide +kernel
theorem dX8_retold_343 : decode cX8_retold 343 = .ok (.iload 9, 2) := by decide +kernel
theorem dX8_retold_345 : decode cX8_retold 345 = .ok (.ireturn, 1) := by decide +kernel
theorem dX8_divisor_0 : decode cX8_divisor 0 = .ok (.lload_n 0, 1) := by decide +kernel
theorem dX8_divisor_1 : decode cX8_divisor 1 = .ok (.lstore 4, 2) := by decide +kernel
theorem dX8_divisor_3 : decode cX8_divisor 3 = .ok (.lload_n 2, 1) := by decide +kernel
theorem dX8_divisor_4 : decode cX8_divisor 4 = .ok (.lstore 6, 2) := by decide +kernel
theorem dX8_divisor_6 : decode cX8_divisor 6 = .ok (.lload 6, 2) := by decide +kernel
theorem dX8_divisor_8 : decode cX8_divisor 8 = .ok (.lconst 0, 1) := by decide +kernel
theorem dX8_divisor_9 : decode cX8_divisor 9 = .ok (.lcmp, 1) := by decide +kernel
theorem dX8_divisor_10 : decode cX8_divisor 10 = .ok (.ifCond .eq 21, 3) := by decide +kernel
theorem dX8_divisor_13 : decode cX8_divisor 13 = .ok (.lload 4, 2) := by decide +kernel
theorem dX8_divisor_15 : decode cX8_divisor 15 = .ok (.lload 6, 2) := by decide +kernel
theorem dX8_divisor_17 : decode cX8_divisor 17 = .ok (.lrem, 1) := by decide +kernel
theorem dX8_divisor_18 : decode cX8_divisor 18 = .ok (.lstore 8, 2) := by decide +kernel
theorem dX8_divisor_20 : decode cX8_divisor 20 = .ok (.lload 6, 2) := by decide +kernel
theorem dX8_divisor_22 : decode cX8_divisor 22 = .ok (.lstore 4, 2) := by decide +kernel
theorem dX8_divisor_24 : decode cX8_divisor 24 = .ok (.lload 8, 2) := by decide +kernel
theorem dX8_divisor_26 : decode cX8_divisor 26 = .ok (.lstore 6, 2) := by decide +kernel
theorem dX8_divisor_28 : decode cX8_divisor 28 = .ok (.goto (-22), 3) := by decide +kernel
theorem dX8_divisor_31 : decode cX8_divisor 31 = .ok (.lload 4, 2) := by decide +kernel
theorem dX8_divisor_33 : decode cX8_divisor 33 = .ok (.lreturn, 1) := by decide +kernel
theorem dX8_chance_0 : decode cX8_chance 0 = .ok (.aload_n 0, 1) := by decide +kernel
theorem dX8_chance_1 : decode cX8_chance 1 = .ok (.iconst 0, 1) := by decide +kernel
theorem dX8_chance_2 : decode cX8_chance 2 = .ok (.putfield 69, 3) := by decide +kernel
theorem dX8_chance_5 : decode cX8_chance 5 = .ok (.aload_n 0, 1) := by decide +kernel
theorem dX8_chance_6 : decode cX8_chance 6 = .ok (.iload_n 1, 1) := by decide +kernel
theorem dX8_chance_7 : decode cX8_chance 7 = .ok (.invokevirtual 167, 3) := by decide +kernel
theorem dX8_chance_10 : decode cX8_chance 10 = .ok (.ifCond .eq 7, 3) := by decide +kernel
theorem dX8_chance_13 : decode cX8_chance 13 = .ok (.ldc2_w 211, 3) := by decide +kernel
theorem dX8_chance_16 : decode cX8_chance 16 = .ok (.lreturn, 1) := by decide +kernel
theorem dX8_chance_17 : decode cX8_chance 17 = .ok (.iload_n 2, 1) := by decide +kernel
theorem dX8_chance_18 : decode cX8_chance 18 = .ok (.i2l, 1) := by decide +kernel
theorem dX8_chance_19 : decode cX8_chance 19 = .ok (.lconst 0, 1) := by decide +kernel
theorem dX8_chance_20 : decode cX8_chance 20 = .ok (.ldc2_w 190, 3) := by decide +kernel
theorem dX8_chance_23 : decode cX8_chance 23 = .ok (.invokestatic 75, 3) := by decide +kernel
theorem dX8_chance_26 : decode cX8_chance 26 = .ok (.ifCond .eq 15, 3) := by decide +kernel
theorem dX8_chance_29 : decode cX8_chance 29 = .ok (.iload_n 3, 1) := by decide +kernel
theorem dX8_chance_30 : decode cX8_chance 30 = .ok (.i2l, 1) := by decide +kernel
theorem dX8_chance_31 : decode cX8_chance 31 = .ok (.lconst 0, 1) := by decide +kernel
theorem dX8_chance_32 : decode cX8_chance 32 = .ok (.ldc2_w 213, 3) := by decide +kernel
theorem dX8_chance_35 : decode cX8_chance 35 = .ok (.invokestatic 75, 3) := by decide +kernel
theorem dX8_chance_38 : decode cX8_chance 38 = .ok (.ifCond .ne 7, 3) := by decide +kernel
theorem dX8_chance_41 : decode cX8_chance 41 = .ok (.ldc2_w 215, 3) := by decide +kernel
theorem dX8_chance_44 : decode cX8_chance 44 = .ok (.lreturn, 1) := by decide +kernel
theorem dX8_chance_45 : decode cX8_chance 45 = .ok (.aload_n 0, 1) := by decide +kernel
theorem dX8_chance_46 : decode cX8_chance 46 = .ok (.iload_n 1, 1) := by decide +kernel
theorem dX8_chance_47 : decode cX8_chance 47 = .ok (.invokevirtual 173, 3) := by decide +kernel
theorem dX8_chance_50 : decode cX8_chance 50 = .ok (.istore 5, 2) := by decide +kernel
theorem dX8_chance_52 : decode cX8_chance 52 = .ok (.lconst 0, 1) := by decide +kernel
theorem dX8_chance_53 : decode cX8_chance 53 = .ok (.lstore 6, 2) := by decide +kernel
theorem dX8_chance_55 : decode cX8_chance 55 = .ok (.lconst 1, 1) := by decide +kernel
theorem dX8_chance_56 : decode cX8_chance 56 = .ok (.lstore 8, 2) := by decide +kernel
theorem dX8_chance_58 : decode cX8_chance 58 = .ok (.iconst 0, 1) := by decide +kernel
theorem dX8_chance_59 : decode cX8_chance 59 = .ok (.istore 10, 2) := by decide +kernel
theorem dX8_chance_61 : decode cX8_chance 61 = .ok (.iload 10, 2) := by decide +kernel
theorem dX8_chance_63 : decode cX8_chance 63 = .ok (.iload 5, 2) := by decide +kernel
theorem dX8_chance_65 : decode cX8_chance 65 = .ok (.invokestatic 151, 3) := by decide +kernel
theorem dX8_chance_68 : decode cX8_chance 68 = .ok (.if_icmp .ge 17, 3) := by decide +kernel
theorem dX8_chance_71 : decode cX8_chance 71 = .ok (.lload 8, 2) := by decide +kernel
theorem dX8_chance_73 : decode cX8_chance 73 = .ok (.ldc2_w 213, 3) := by decide +kernel
theorem dX8_chance_76 : decode cX8_chance 76 = .ok (.lmul, 1) := by decide +kernel
theorem dX8_chance_77 : decode cX8_chance 77 = .ok (.lstore 8, 2) := by decide +kernel
theorem dX8_chance_79 : decode cX8_chance 79 = .ok (.iinc 10 1, 3) := by decide +kernel
theorem dX8_chance_82 : decode cX8_chance 82 = .ok (.goto (-21), 3) := by decide +kernel
theorem dX8_chance_85 : decode cX8_chance 85 = .ok (.iconst 0, 1) := by decide +kernel
theorem dX8_chance_86 : decode cX8_chance 86 = .ok (.istore 10, 2) := by decide +kernel
theorem dX8_chance_88 : decode cX8_chance 88 = .ok (.iload 10, 2) := by decide +kernel
theorem dX8_chance_90 : decode cX8_chance 90 = .ok (.iconst 1, 1) := by decide +kernel
theorem dX8_chance_91 : decode cX8_chance 91 = .ok (.aload_n 0, 1) := by decide +kernel
theorem dX8_chance_92 : decode cX8_chance 92 = .ok (.getfield 72, 3) := by decide +kernel
theorem dX8_chance_95 : decode cX8_chance 95 = .ok (.ishl, 1) := by decide +kernel
theorem dX8_chance_96 : decode cX8_chance 96 = .ok (.if_icmp .ge 98, 3) := by decide +kernel
theorem dX8_chance_99 : decode cX8_chance 99 = .ok (.iload 10, 2) := by decide +kernel
theorem dX8_chance_101 : decode cX8_chance 101 = .ok (.iload 5, 2) := by decide +kernel
theorem dX8_chance_103 : decode cX8_chance 103 = .ok (.iconst (-1), 1) := by decide +kernel
theorem dX8_chance_104 : decode cX8_chance 104 = .ok (.ixor, 1) := by decide +kernel
theorem dX8_chance_105 : decode cX8_chance 105 = .ok (.iand, 1) := by decide +kernel
theorem dX8_chance_106 : decode cX8_chance 106 = .ok (.ifCond .ne 82, 3) := by decide +kernel
theorem dX8_chance_109 : decode cX8_chance 109 = .ok (.aload_n 0, 1) := by decide +kernel
theorem dX8_chance_110 : decode cX8_chance 110 = .ok (.iload 5, 2) := by decide +kernel
theorem dX8_chance_112 : decode cX8_chance 112 = .ok (.iload 10, 2) := by decide +kernel
theorem dX8_chance_114 : decode cX8_chance 114 = .ok (.invokevirtual 201, 3) := by decide +kernel
theorem dX8_chance_117 : decode cX8_chance 117 = .ok (.iload_n 2, 1) := by decide +kernel
theorem dX8_chance_118 : decode cX8_chance 118 = .ok (.if_icmp .lt 70, 3) := by decide +kernel
theorem dX8_chance_121 : decode cX8_chance 121 = .ok (.lconst 1, 1) := by decide +kernel
theorem dX8_chance_122 : decode cX8_chance 122 = .ok (.lstore 11, 2) := by decide +kernel
theorem dX8_chance_124 : decode cX8_chance 124 = .ok (.iconst 0, 1) := by decide +kernel
theorem dX8_chance_125 : decode cX8_chance 125 = .ok (.istore 13, 2) := by decide +kernel
theorem dX8_chance_127 : decode cX8_chance 127 = .ok (.iload 13, 2) := by decide +kernel
theorem dX8_chance_129 : decode cX8_chance 129 = .ok (.aload_n 0, 1) := by decide +kernel
theorem dX8_chance_130 : decode cX8_chance 130 = .ok (.getfield 72, 3) := by decide +kernel
theorem dX8_chance_133 : decode cX8_chance 133 = .ok (.if_icmp .ge 48, 3) := by decide +kernel
theorem dX8_chance_136 : decode cX8_chance 136 = .ok (.lload 11, 2) := by decide +kernel
theorem dX8_chance_138 : decode cX8_chance 138 = .ok (.iload 5, 2) := by decide +kernel
theorem dX8_chance_140 : decode cX8_chance 140 = .ok (.iload 13, 2) := by decide +kernel
theorem dX8_chance_142 : decode cX8_chance 142 = .ok (.invokestatic 101, 3) := by decide +kernel
theorem dX8_chance_145 : decode cX8_chance 145 = .ok (.ifCond .ne 7, 3) := by decide +kernel
theorem dX8_chance_148 : decode cX8_chance 148 = .ok (.lconst 1, 1) := by decide +kernel
theorem dX8_chance_149 : decode cX8_chance 149 = .ok (.goto 23, 3) := by decide +kernel
theorem dX8_chance_152 : decode cX8_chance 152 = .ok (.iload 10, 2) := by decide +kernel
theorem dX8_chance_154 : decode cX8_chance 154 = .ok (.iload 13, 2) := by decide +kernel
theorem dX8_chance_156 : decode cX8_chance 156 = .ok (.invokestatic 101, 3) := by decide +kernel
theorem dX8_chance_159 : decode cX8_chance 159 = .ok (.ifCond .eq 8, 3) := by decide +kernel
theorem dX8_chance_162 : decode cX8_chance 162 = .ok (.iload_n 3, 1) := by decide +kernel
theorem dX8_chance_163 : decode cX8_chance 163 = .ok (.i2l, 1) := by decide +kernel
theorem dX8_chance_164 : decode cX8_chance 164 = .ok (.goto 8, 3) := by decide +kernel
theorem dX8_chance_167 : decode cX8_chance 167 = .ok (.bipush 10, 2) := by decide +kernel
theorem dX8_chance_169 : decode cX8_chance 169 = .ok (.iload_n 3, 1) := by decide +kernel
theorem dX8_chance_170 : decode cX8_chance 170 = .ok (.isub, 1) := by decide +kernel
theorem dX8_chance_171 : decode cX8_chance 171 = .ok (.i2l, 1) := by decide +kernel
theorem dX8_chance_172 : decode cX8_chance 172 = .ok (.lmul, 1) := by decide +kernel
theorem dX8_chance_173 : decode cX8_chance 173 = .ok (.lstore 11, 2) := by decide +kernel
theorem dX8_chance_175 : decode cX8_chance 175 = .ok (.iinc 13 1, 3) := by decide +kernel
theorem dX8_chance_178 : decode cX8_chance 178 = .ok (.goto (-51), 3) := by decide +kernel
theorem dX8_chance_181 : decode cX8_chance 181 = .ok (.lload 6, 2) := by decide +kernel
theorem dX8_chance_183 : decode cX8_chance 183 = .ok (.lload 11, 2) := by decide +kernel
theorem dX8_chance_185 : decode cX8_chance 185 = .ok (.ladd, 1) := by decide +kernel
theorem dX8_chance_186 : decode cX8_chance 186 = .ok (.lstore 6, 2) := by decide +kernel
theorem dX8_chance_188 : decode cX8_chance 188 = .ok (.iinc 10 1, 3) := by decide +kernel
theorem dX8_chance_191 : decode cX8_chance 191 = .ok (.goto (-103), 3) := by decide +kernel
theorem dX8_chance_194 : decode cX8_chance 194 = .ok (.lload 6, 2) := by decide +kernel
theorem dX8_chance_196 : decode cX8_chance 196 = .ok (.lload 8, 2) := by decide +kernel
theorem dX8_chance_198 : decode cX8_chance 198 = .ok (.invokestatic 217, 3) := by decide +kernel
theorem dX8_chance_201 : decode cX8_chance 201 = .ok (.lstore 10, 2) := by decide +kernel
theorem dX8_chance_203 : decode cX8_chance 203 = .ok (.iload 4, 2) := by decide +kernel
theorem dX8_chance_205 : decode cX8_chance 205 = .ok (.ifCond .eq 11, 3) := by decide +kernel
theorem dX8_chance_208 : decode cX8_chance 208 = .ok (.lload 6, 2) := by decide +kernel
theorem dX8_chance_210 : decode cX8_chance 210 = .ok (.lload 10, 2) := by decide +kernel
theorem dX8_chance_212 : decode cX8_chance 212 = .ok (.ldiv, 1) := by decide +kernel
theorem dX8_chance_213 : decode cX8_chance 213 = .ok (.goto 8, 3) := by decide +kernel
theorem dX8_chance_216 : decode cX8_chance 216 = .ok (.lload 8, 2) := by decide +kernel
theorem dX8_chance_218 : decode cX8_chance 218 = .ok (.lload 10, 2) := by decide +kernel
theorem dX8_chance_220 : decode cX8_chance 220 = .ok (.ldiv, 1) := by decide +kernel
theorem dX8_chance_221 : decode cX8_chance 221 = .ok (.lreturn, 1) := by decide +kernel
theorem dX8_keep_0 : decode cX8_keep 0 = .ok (.aload_n 0, 1) := by decide +kernel
theorem dX8_keep_1 : decode cX8_keep 1 = .ok (.iconst 0, 1) := by decide +kernel
theorem dX8_keep_2 : decode cX8_keep 2 = .ok (.putfield 69, 3) := by decide +kernel
theorem dX8_keep_5 : decode cX8_keep 5 = .ok (.iload_n 1, 1) := by decide +kernel
theorem dX8_keep_6 : decode cX8_keep 6 = .ok (.i2l, 1) := by decide +kernel
theorem dX8_keep_7 : decode cX8_keep 7 = .ok (.lconst 0, 1) := by decide +kernel
theorem dX8_keep_8 : decode cX8_keep 8 = .ok (.lconst 1, 1) := by decide +kernel
theorem dX8_keep_9 : decode cX8_keep 9 = .ok (.invokestatic 75, 3) := by decide +kernel
theorem dX8_keep_12 : decode cX8_keep 12 = .ok (.ifCond .ne 5, 3) := by decide +kernel
theorem dX8_keep_15 : decode cX8_keep 15 = .ok (.iconst (-1), 1) := by decide +kernel
theorem dX8_keep_16 : decode cX8_keep 16 = .ok (.ireturn, 1) := by decide +kernel
theorem dX8_keep_17 : decode cX8_keep 17 = .ok (.aload_n 0, 1) := by decide +kernel
theorem dX8_keep_18 : decode cX8_keep 18 = .ok (.getfield 59, 3) := by decide +kernel
theorem dX8_keep_21 : decode cX8_keep 21 = .ok (.iload_n 1, 1) := by decide +kernel
theorem dX8_keep_22 : decode cX8_keep 22 = .ok (.iconst 1, 1) := by decide +kernel
theorem dX8_keep_23 : decode cX8_keep 23 = .ok (.bastore, 1) := by decide +kernel
theorem dX8_keep_24 : decode cX8_keep 24 = .ok (.aload_n 0, 1) := by decide +kernel
theorem dX8_keep_25 : decode cX8_keep 25 = .ok (.aload_n 0, 1) := by decide +kernel
theorem dX8_keep_26 : decode cX8_keep 26 = .ok (.getfield 56, 3) := by decide +kernel
theorem dX8_keep_29 : decode cX8_keep 29 = .ok (.bipush 29, 2) := by decide +kernel
theorem dX8_keep_31 : decode cX8_keep 31 = .ok (.iload_n 1, 1) := by decide +kernel
theorem dX8_keep_32 : decode cX8_keep 32 = .ok (.imul, 1) := by decide +kernel
theorem dX8_keep_33 : decode cX8_keep 33 = .ok (.invokevirtual 178, 3) := by decide +kernel
theorem dX8_keep_36 : decode cX8_keep 36 = .ok (.aload_n 0, 1) := by decide +kernel
theorem dX8_keep_37 : decode cX8_keep 37 = .ok (.getfield 131, 3) := by decide +kernel
theorem dX8_keep_40 : decode cX8_keep 40 = .ok (.ireturn, 1) := by decide +kernel
theorem dX8_again_0 : decode cX8_again 0 = .ok (.aload_n 0, 1) := by decide +kernel
theorem dX8_again_1 : decode cX8_again 1 = .ok (.iconst 0, 1) := by decide +kernel
theorem dX8_again_2 : decode cX8_again 2 = .ok (.putfield 69, 3) := by decide +kernel
theorem dX8_again_5 : decode cX8_again 5 = .ok (.iload_n 1, 1) := by decide +kernel
theorem dX8_again_6 : decode cX8_again 6 = .ok (.i2l, 1) := by decide +kernel
theorem dX8_again_7 : decode cX8_again 7 = .ok (.lconst 0, 1) := by decide +kernel
theorem dX8_again_8 : decode cX8_again 8 = .ok (.lconst 1, 1) := by decide +kernel
theorem dX8_again_9 : decode cX8_again 9 = .ok (.invokestatic 75, 3) := by decide +kernel
theorem dX8_again_12 : decode cX8_again 12 = .ok (.ifCond .ne 5, 3) := by decide +kernel
theorem dX8_again_15 : decode cX8_again 15 = .ok (.iconst (-1), 1) := by decide +kernel
theorem dX8_again_16 : decode cX8_again 16 = .ok (.ireturn, 1) := by decide +kernel
theorem dX8_again_17 : decode cX8_again 17 = .ok (.aload_n 0, 1) := by decide +kernel
theorem dX8_again_18 : decode cX8_again 18 = .ok (.getfield 59, 3) := by decide +kernel
theorem dX8_again_21 : decode cX8_again 21 = .ok (.iload_n 1, 1) := by decide +kernel
theorem dX8_again_22 : decode cX8_again 22 = .ok (.baload, 1) := by decide +kernel
theorem dX8_again_23 : decode cX8_again 23 = .ok (.ifCond .ne 6, 3) := by decide +kernel
theorem dX8_again_26 : decode cX8_again 26 = .ok (.bipush (-3), 2) := by decide +kernel
theorem dX8_again_28 : decode cX8_again 28 = .ok (.ireturn, 1) := by decide +kernel
theorem dX8_again_29 : decode cX8_again 29 = .ok (.aload_n 0, 1) := by decide +kernel
theorem dX8_again_30 : decode cX8_again 30 = .ok (.aload_n 0, 1) := by decide +kernel
theorem dX8_again_31 : decode cX8_again 31 = .ok (.getfield 56, 3) := by decide +kernel
theorem dX8_again_34 : decode cX8_again 34 = .ok (.bipush 29, 2) := by decide +kernel
theorem dX8_again_36 : decode cX8_again 36 = .ok (.iload_n 1, 1) := by decide +kernel
theorem dX8_again_37 : decode cX8_again 37 = .ok (.imul, 1) := by decide +kernel
theorem dX8_again_38 : decode cX8_again 38 = .ok (.invokevirtual 187, 3) := by decide +kernel
theorem dX8_again_41 : decode cX8_again 41 = .ok (.aload_n 0, 1) := by decide +kernel
theorem dX8_again_42 : decode cX8_again 42 = .ok (.iconst 0, 1) := by decide +kernel
theorem dX8_again_43 : decode cX8_again 43 = .ok (.putfield 134, 3) := by decide +kernel
theorem dX8_again_46 : decode cX8_again 46 = .ok (.aload_n 0, 1) := by decide +kernel
theorem dX8_again_47 : decode cX8_again 47 = .ok (.getfield 131, 3) := by decide +kernel
theorem dX8_again_50 : decode cX8_again 50 = .ok (.ireturn, 1) := by decide +kernel
