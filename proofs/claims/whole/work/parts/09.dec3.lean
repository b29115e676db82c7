theorem d_Md_init_0 : decode M_Md_init.2.1 0 = .ok (.aload_n 0, 1) := by decide +kernel
theorem d_Md_init_1 : decode M_Md_init.2.1 1 = .ok (.invokespecial 1, 3) := by decide +kernel
theorem d_Md_init_4 : decode M_Md_init.2.1 4 = .ok (.aload_n 0, 1) := by decide +kernel
theorem d_Md_init_5 : decode M_Md_init.2.1 5 = .ok (.bipush 56, 2) := by decide +kernel
theorem d_Md_init_7 : decode M_Md_init.2.1 7 = .ok (.newarray .int, 2) := by decide +kernel
theorem d_Md_init_9 : decode M_Md_init.2.1 9 = .ok (.putfield 7, 3) := by decide +kernel
theorem d_Md_init_12 : decode M_Md_init.2.1 12 = .ok (.aload_n 0, 1) := by decide +kernel
theorem d_Md_init_13 : decode M_Md_init.2.1 13 = .ok (.iconst 5, 1) := by decide +kernel
theorem d_Md_init_14 : decode M_Md_init.2.1 14 = .ok (.newarray .int, 2) := by decide +kernel
theorem d_Md_init_16 : decode M_Md_init.2.1 16 = .ok (.putfield 13, 3) := by decide +kernel
theorem d_Md_init_19 : decode M_Md_init.2.1 19 = .ok (.aload_n 0, 1) := by decide +kernel
theorem d_Md_init_20 : decode M_Md_init.2.1 20 = .ok (.bipush 6, 2) := by decide +kernel
theorem d_Md_init_22 : decode M_Md_init.2.1 22 = .ok (.newarray .int, 2) := by decide +kernel
theorem d_Md_init_24 : decode M_Md_init.2.1 24 = .ok (.putfield 16, 3) := by decide +kernel
theorem d_Md_init_27 : decode M_Md_init.2.1 27 = .ok (.aload_n 0, 1) := by decide +kernel
theorem d_Md_init_28 : decode M_Md_init.2.1 28 = .ok (.bipush 15, 2) := by decide +kernel
theorem d_Md_init_30 : decode M_Md_init.2.1 30 = .ok (.newarray .int, 2) := by decide +kernel
theorem d_Md_init_32 : decode M_Md_init.2.1 32 = .ok (.putfield 19, 3) := by decide +kernel
theorem d_Md_init_35 : decode M_Md_init.2.1 35 = .ok (.aload_n 0, 1) := by decide +kernel
theorem d_Md_init_36 : decode M_Md_init.2.1 36 = .ok (.bipush 12, 2) := by decide +kernel
theorem d_Md_init_38 : decode M_Md_init.2.1 38 = .ok (.newarray .int, 2) := by decide +kernel
theorem d_Md_init_40 : decode M_Md_init.2.1 40 = .ok (.putfield 22, 3) := by decide +kernel
theorem d_Md_init_43 : decode M_Md_init.2.1 43 = .ok (.aload_n 0, 1) := by decide +kernel
theorem d_Md_init_44 : decode M_Md_init.2.1 44 = .ok (.bipush 24, 2) := by decide +kernel
theorem d_Md_init_46 : decode M_Md_init.2.1 46 = .ok (.newarray .int, 2) := by decide +kernel
theorem d_Md_init_48 : decode M_Md_init.2.1 48 = .ok (.putfield 25, 3) := by decide +kernel
theorem d_Md_init_51 : decode M_Md_init.2.1 51 = .ok (.aload_n 0, 1) := by decide +kernel
theorem d_Md_init_52 : decode M_Md_init.2.1 52 = .ok (.bipush 24, 2) := by decide +kernel
theorem d_Md_init_54 : decode M_Md_init.2.1 54 = .ok (.newarray .int, 2) := by decide +kernel
theorem d_Md_init_56 : decode M_Md_init.2.1 56 = .ok (.putfield 28, 3) := by decide +kernel
theorem d_Md_init_59 : decode M_Md_init.2.1 59 = .ok (.aload_n 0, 1) := by decide +kernel
theorem d_Md_init_60 : decode M_Md_init.2.1 60 = .ok (.sipush 336, 3) := by decide +kernel
theorem d_Md_init_63 : decode M_Md_init.2.1 63 = .ok (.newarray .int, 2) := by decide +kernel
theorem d_Md_init_65 : decode M_Md_init.2.1 65 = .ok (.putfield 31, 3) := by decide +kernel
theorem d_Md_init_68 : decode M_Md_init.2.1 68 = .ok (.aload_n 0, 1) := by decide +kernel
theorem d_Md_init_69 : decode M_Md_init.2.1 69 = .ok (.bipush 48, 2) := by decide +kernel
theorem d_Md_init_71 : decode M_Md_init.2.1 71 = .ok (.newarray .int, 2) := by decide +kernel
theorem d_Md_init_73 : decode M_Md_init.2.1 73 = .ok (.putfield 34, 3) := by decide +kernel
theorem d_Md_init_76 : decode M_Md_init.2.1 76 = .ok (.aload_n 0, 1) := by decide +kernel
theorem d_Md_init_77 : decode M_Md_init.2.1 77 = .ok (.iconst 2, 1) := by decide +kernel
theorem d_Md_init_78 : decode M_Md_init.2.1 78 = .ok (.newarray .boolean, 2) := by decide +kernel
theorem d_Md_init_80 : decode M_Md_init.2.1 80 = .ok (.putfield 37, 3) := by decide +kernel
theorem d_Md_init_83 : decode M_Md_init.2.1 83 = .ok (.aload_n 0, 1) := by decide +kernel
theorem d_Md_init_84 : decode M_Md_init.2.1 84 = .ok (.bipush 6, 2) := by decide +kernel
theorem d_Md_init_86 : decode M_Md_init.2.1 86 = .ok (.newarray .int, 2) := by decide +kernel
theorem d_Md_init_88 : decode M_Md_init.2.1 88 = .ok (.putfield 41, 3) := by decide +kernel
theorem d_Md_init_91 : decode M_Md_init.2.1 91 = .ok (.aload_n 0, 1) := by decide +kernel
theorem d_Md_init_92 : decode M_Md_init.2.1 92 = .ok (.bipush 6, 2) := by decide +kernel
theorem d_Md_init_94 : decode M_Md_init.2.1 94 = .ok (.newarray .int, 2) := by decide +kernel
theorem d_Md_init_96 : decode M_Md_init.2.1 96 = .ok (.putfield 44, 3) := by decide +kernel
theorem d_Md_init_99 : decode M_Md_init.2.1 99 = .ok (.aload_n 0, 1) := by decide +kernel
theorem d_Md_init_100 : decode M_Md_init.2.1 100 = .ok (.bipush 6, 2) := by decide +kernel
theorem d_Md_init_102 : decode M_Md_init.2.1 102 = .ok (.newarray .int, 2) := by decide +kernel
theorem d_Md_init_104 : decode M_Md_init.2.1 104 = .ok (.putfield 47, 3) := by decide +kernel
theorem d_Md_init_107 : decode M_Md_init.2.1 107 = .ok (.aload_n 0, 1) := by decide +kernel
theorem d_Md_init_108 : decode M_Md_init.2.1 108 = .ok (.bipush 6, 2) := by decide +kernel
theorem d_Md_init_110 : decode M_Md_init.2.1 110 = .ok (.newarray .int, 2) := by decide +kernel
theorem d_Md_init_112 : decode M_Md_init.2.1 112 = .ok (.putfield 50, 3) := by decide +kernel
theorem d_Md_init_115 : decode M_Md_init.2.1 115 = .ok (.aload_n 0, 1) := by decide +kernel
theorem d_Md_init_116 : decode M_Md_init.2.1 116 = .ok (.iconst 5, 1) := by decide +kernel
theorem d_Md_init_117 : decode M_Md_init.2.1 117 = .ok (.newarray .int, 2) := by decide +kernel
theorem d_Md_init_119 : decode M_Md_init.2.1 119 = .ok (.putfield 53, 3) := by decide +kernel
theorem d_Md_init_122 : decode M_Md_init.2.1 122 = .ok (.aload_n 0, 1) := by decide +kernel
theorem d_Md_init_123 : decode M_Md_init.2.1 123 = .ok (.bipush 8, 2) := by decide +kernel
theorem d_Md_init_125 : decode M_Md_init.2.1 125 = .ok (.newarray .int, 2) := by decide +kernel
theorem d_Md_init_127 : decode M_Md_init.2.1 127 = .ok (.putfield 56, 3) := by decide +kernel
theorem d_Md_init_130 : decode M_Md_init.2.1 130 = .ok (.aload_n 0, 1) := by decide +kernel
theorem d_Md_init_131 : decode M_Md_init.2.1 131 = .ok (.bipush 32, 2) := by decide +kernel
theorem d_Md_init_133 : decode M_Md_init.2.1 133 = .ok (.newarray .int, 2) := by decide +kernel
theorem d_Md_init_135 : decode M_Md_init.2.1 135 = .ok (.putfield 59, 3) := by decide +kernel
theorem d_Md_init_138 : decode M_Md_init.2.1 138 = .ok (.aload_n 0, 1) := by decide +kernel
theorem d_Md_init_139 : decode M_Md_init.2.1 139 = .ok (.getfield 25, 3) := by decide +kernel
theorem d_Md_init_142 : decode M_Md_init.2.1 142 = .ok (.bipush 16, 2) := by decide +kernel
theorem d_Md_init_144 : decode M_Md_init.2.1 144 = .ok (.iconst 1, 1) := by decide +kernel
theorem d_Md_init_145 : decode M_Md_init.2.1 145 = .ok (.iastore, 1) := by decide +kernel
theorem d_Md_init_146 : decode M_Md_init.2.1 146 = .ok (.aload_n 0, 1) := by decide +kernel
theorem d_Md_init_147 : decode M_Md_init.2.1 147 = .ok (.getfield 25, 3) := by decide +kernel
theorem d_Md_init_150 : decode M_Md_init.2.1 150 = .ok (.bipush 17, 2) := by decide +kernel
theorem d_Md_init_152 : decode M_Md_init.2.1 152 = .ok (.bipush 9, 2) := by decide +kernel
theorem d_Md_init_154 : decode M_Md_init.2.1 154 = .ok (.iastore, 1) := by decide +kernel
theorem d_Md_init_155 : decode M_Md_init.2.1 155 = .ok (.return_, 1) := by decide +kernel
theorem d_Md_in_0 : decode M_Md_in.2.1 0 = .ok (.lload_n 0, 1) := by decide +kernel
theorem d_Md_in_1 : decode M_Md_in.2.1 1 = .ok (.lload_n 2, 1) := by decide +kernel
theorem d_Md_in_2 : decode M_Md_in.2.1 2 = .ok (.lcmp, 1) := by decide +kernel
theorem d_Md_in_3 : decode M_Md_in.2.1 3 = .ok (.ifCond .lt 14, 3) := by decide +kernel
theorem d_Md_in_6 : decode M_Md_in.2.1 6 = .ok (.lload_n 0, 1) := by decide +kernel
theorem d_Md_in_7 : decode M_Md_in.2.1 7 = .ok (.lload 4, 2) := by decide +kernel
theorem d_Md_in_9 : decode M_Md_in.2.1 9 = .ok (.lcmp, 1) := by decide +kernel
theorem d_Md_in_10 : decode M_Md_in.2.1 10 = .ok (.ifCond .gt 7, 3) := by decide +kernel
theorem d_Md_in_13 : decode M_Md_in.2.1 13 = .ok (.iconst 1, 1) := by decide +kernel
theorem d_Md_in_14 : decode M_Md_in.2.1 14 = .ok (.goto 4, 3) := by decide +kernel
theorem d_Md_in_17 : decode M_Md_in.2.1 17 = .ok (.iconst 0, 1) := by decide +kernel
theorem d_Md_in_18 : decode M_Md_in.2.1 18 = .ok (.ireturn, 1) := by decide +kernel
theorem d_Md_has_0 : decode M_Md_has.2.1 0 = .ok (.iload_n 0, 1) := by decide +kernel
theorem d_Md_has_1 : decode M_Md_has.2.1 1 = .ok (.iload_n 1, 1) := by decide +kernel
theorem d_Md_has_2 : decode M_Md_has.2.1 2 = .ok (.ishr, 1) := by decide +kernel
theorem d_Md_has_3 : decode M_Md_has.2.1 3 = .ok (.iconst 1, 1) := by decide +kernel
theorem d_Md_has_4 : decode M_Md_has.2.1 4 = .ok (.iand, 1) := by decide +kernel
theorem d_Md_has_5 : decode M_Md_has.2.1 5 = .ok (.iconst 1, 1) := by decide +kernel
theorem d_Md_has_6 : decode M_Md_has.2.1 6 = .ok (.if_icmp .ne 7, 3) := by decide +kernel
theorem d_Md_has_9 : decode M_Md_has.2.1 9 = .ok (.iconst 1, 1) := by decide +kernel
theorem d_Md_has_10 : decode M_Md_has.2.1 10 = .ok (.goto 4, 3) := by decide +kernel
theorem d_Md_has_13 : decode M_Md_has.2.1 13 = .ok (.iconst 0, 1) := by decide +kernel
theorem d_Md_has_14 : decode M_Md_has.2.1 14 = .ok (.ireturn, 1) := by decide +kernel
theorem d_Md_many_0 : decode M_Md_many.2.1 0 = .ok (.iconst 0, 1) := by decide +kernel
theorem d_Md_many_1 : decode M_Md_many.2.1 1 = .ok (.istore_n 1, 1) := by decide +kernel
theorem d_Md_many_2 : decode M_Md_many.2.1 2 = .ok (.iconst 0, 1) := by decide +kernel
theorem d_Md_many_3 : decode M_Md_many.2.1 3 = .ok (.istore_n 2, 1) := by decide +kernel
theorem d_Md_many_4 : decode M_Md_many.2.1 4 = .ok (.iload_n 2, 1) := by decide +kernel
theorem d_Md_many_5 : decode M_Md_many.2.1 5 = .ok (.bipush 6, 2) := by decide +kernel
theorem d_Md_many_7 : decode M_Md_many.2.1 7 = .ok (.if_icmp .ge 17, 3) := by decide +kernel
theorem d_Md_many_10 : decode M_Md_many.2.1 10 = .ok (.iload_n 1, 1) := by decide +kernel
theorem d_Md_many_11 : decode M_Md_many.2.1 11 = .ok (.iload_n 0, 1) := by decide +kernel
theorem d_Md_many_12 : decode M_Md_many.2.1 12 = .ok (.iload_n 2, 1) := by decide +kernel
theorem d_Md_many_13 : decode M_Md_many.2.1 13 = .ok (.ishr, 1) := by decide +kernel
theorem d_Md_many_14 : decode M_Md_many.2.1 14 = .ok (.iconst 1, 1) := by decide +kernel
theorem d_Md_many_15 : decode M_Md_many.2.1 15 = .ok (.iand, 1) := by decide +kernel
theorem d_Md_many_16 : decode M_Md_many.2.1 16 = .ok (.iadd, 1) := by decide +kernel
theorem d_Md_many_17 : decode M_Md_many.2.1 17 = .ok (.istore_n 1, 1) := by decide +kernel
theorem d_Md_many_18 : decode M_Md_many.2.1 18 = .ok (.iinc 2 1, 3) := by decide +kernel
theorem d_Md_many_21 : decode M_Md_many.2.1 21 = .ok (.goto (-17), 3) := by decide +kernel
theorem d_Md_many_24 : decode M_Md_many.2.1 24 = .ok (.iload_n 1, 1) := by decide +kernel
theorem d_Md_many_25 : decode M_Md_many.2.1 25 = .ok (.ireturn, 1) := by decide +kernel
theorem d_Md_noWindow_0 : decode M_Md_noWindow.2.1 0 = .ok (.iload_n 1, 1) := by decide +kernel
theorem d_Md_noWindow_1 : decode M_Md_noWindow.2.1 1 = .ok (.i2l, 1) := by decide +kernel
theorem d_Md_noWindow_2 : decode M_Md_noWindow.2.1 2 = .ok (.lconst 0, 1) := by decide +kernel
theorem d_Md_noWindow_3 : decode M_Md_noWindow.2.1 3 = .ok (.aload_n 0, 1) := by decide +kernel
theorem d_Md_noWindow_4 : decode M_Md_noWindow.2.1 4 = .ok (.getfield 66, 3) := by decide +kernel
theorem d_Md_noWindow_7 : decode M_Md_noWindow.2.1 7 = .ok (.iconst 1, 1) := by decide +kernel
theorem d_Md_noWindow_8 : decode M_Md_noWindow.2.1 8 = .ok (.isub, 1) := by decide +kernel
theorem d_Md_noWindow_9 : decode M_Md_noWindow.2.1 9 = .ok (.i2l, 1) := by decide +kernel
theorem d_Md_noWindow_10 : decode M_Md_noWindow.2.1 10 = .ok (.invokestatic 69, 3) := by decide +kernel
theorem d_Md_noWindow_13 : decode M_Md_noWindow.2.1 13 = .ok (.ifCond .ne 7, 3) := by decide +kernel
theorem d_Md_noWindow_16 : decode M_Md_noWindow.2.1 16 = .ok (.iconst 1, 1) := by decide +kernel
theorem d_Md_noWindow_17 : decode M_Md_noWindow.2.1 17 = .ok (.goto 4, 3) := by decide +kernel
theorem d_Md_noWindow_20 : decode M_Md_noWindow.2.1 20 = .ok (.iconst 0, 1) := by decide +kernel
theorem d_Md_noWindow_21 : decode M_Md_noWindow.2.1 21 = .ok (.ireturn, 1) := by decide +kernel
theorem d_Md_noMoth_0 : decode M_Md_noMoth.2.1 0 = .ok (.iload_n 1, 1) := by decide +kernel
theorem d_Md_noMoth_1 : decode M_Md_noMoth.2.1 1 = .ok (.i2l, 1) := by decide +kernel
theorem d_Md_noMoth_2 : decode M_Md_noMoth.2.1 2 = .ok (.lconst 0, 1) := by decide +kernel
theorem d_Md_noMoth_3 : decode M_Md_noMoth.2.1 3 = .ok (.aload_n 0, 1) := by decide +kernel
theorem d_Md_noMoth_4 : decode M_Md_noMoth.2.1 4 = .ok (.getfield 73, 3) := by decide +kernel
theorem d_Md_noMoth_7 : decode M_Md_noMoth.2.1 7 = .ok (.iconst 1, 1) := by decide +kernel
theorem d_Md_noMoth_8 : decode M_Md_noMoth.2.1 8 = .ok (.isub, 1) := by decide +kernel
theorem d_Md_noMoth_9 : decode M_Md_noMoth.2.1 9 = .ok (.i2l, 1) := by decide +kernel
theorem d_Md_noMoth_10 : decode M_Md_noMoth.2.1 10 = .ok (.invokestatic 69, 3) := by decide +kernel
theorem d_Md_noMoth_13 : decode M_Md_noMoth.2.1 13 = .ok (.ifCond .ne 7, 3) := by decide +kernel
theorem d_Md_noMoth_16 : decode M_Md_noMoth.2.1 16 = .ok (.iconst 1, 1) := by decide +kernel
theorem d_Md_noMoth_17 : decode M_Md_noMoth.2.1 17 = .ok (.goto 4, 3) := by decide +kernel
theorem d_Md_noMoth_20 : decode M_Md_noMoth.2.1 20 = .ok (.iconst 0, 1) := by decide +kernel
theorem d_Md_noMoth_21 : decode M_Md_noMoth.2.1 21 = .ok (.ireturn, 1) := by decide +kernel
theorem d_Md_write_0 : decode M_Md_write.2.1 0 = .ok (.aload_n 0, 1) := by decide +kernel
theorem d_Md_write_1 : decode M_Md_write.2.1 1 = .ok (.iconst 0, 1) := by decide +kernel
theorem d_Md_write_2 : decode M_Md_write.2.1 2 = .ok (.putfield 62, 3) := by decide +kernel
theorem d_Md_write_5 : decode M_Md_write.2.1 5 = .ok (.iload_n 1, 1) := by decide +kernel
theorem d_Md_write_6 : decode M_Md_write.2.1 6 = .ok (.i2l, 1) := by decide +kernel
theorem d_Md_write_7 : decode M_Md_write.2.1 7 = .ok (.lconst 0, 1) := by decide +kernel
theorem d_Md_write_8 : decode M_Md_write.2.1 8 = .ok (.ldc2_w 76, 3) := by decide +kernel
theorem d_Md_write_11 : decode M_Md_write.2.1 11 = .ok (.invokestatic 69, 3) := by decide +kernel
theorem d_Md_write_14 : decode M_Md_write.2.1 14 = .ok (.ifCond .ne 6, 3) := by decide +kernel
theorem d_Md_write_17 : decode M_Md_write.2.1 17 = .ok (.bipush (-2), 2) := by decide +kernel
theorem d_Md_write_19 : decode M_Md_write.2.1 19 = .ok (.ireturn, 1) := by decide +kernel
theorem d_Md_write_20 : decode M_Md_write.2.1 20 = .ok (.aload_n 0, 1) := by decide +kernel
theorem d_Md_write_21 : decode M_Md_write.2.1 21 = .ok (.getfield 78, 3) := by decide +kernel
theorem d_Md_write_24 : decode M_Md_write.2.1 24 = .ok (.bipush 56, 2) := by decide +kernel
theorem d_Md_write_26 : decode M_Md_write.2.1 26 = .ok (.if_icmp .ne 6, 3) := by decide +kernel
theorem d_Md_write_29 : decode M_Md_write.2.1 29 = .ok (.bipush (-4), 2) := by decide +kernel
theorem d_Md_write_31 : decode M_Md_write.2.1 31 = .ok (.ireturn, 1) := by decide +kernel
theorem d_Md_write_32 : decode M_Md_write.2.1 32 = .ok (.aload_n 0, 1) := by decide +kernel
theorem d_Md_write_33 : decode M_Md_write.2.1 33 = .ok (.getfield 7, 3) := by decide +kernel
theorem d_Md_write_36 : decode M_Md_write.2.1 36 = .ok (.aload_n 0, 1) := by decide +kernel
theorem d_Md_write_37 : decode M_Md_write.2.1 37 = .ok (.getfield 78, 3) := by decide +kernel
theorem d_Md_write_40 : decode M_Md_write.2.1 40 = .ok (.iload_n 1, 1) := by decide +kernel
theorem d_Md_write_41 : decode M_Md_write.2.1 41 = .ok (.iastore, 1) := by decide +kernel
theorem d_Md_write_42 : decode M_Md_write.2.1 42 = .ok (.aload_n 0, 1) := by decide +kernel
theorem d_Md_write_43 : decode M_Md_write.2.1 43 = .ok (.dup, 1) := by decide +kernel
theorem d_Md_write_44 : decode M_Md_write.2.1 44 = .ok (.getfield 78, 3) := by decide +kernel
theorem d_Md_write_47 : decode M_Md_write.2.1 47 = .ok (.iconst 1, 1) := by decide +kernel
theorem d_Md_write_48 : decode M_Md_write.2.1 48 = .ok (.iadd, 1) := by decide +kernel
theorem d_Md_write_49 : decode M_Md_write.2.1 49 = .ok (.putfield 78, 3) := by decide +kernel
theorem d_Md_write_52 : decode M_Md_write.2.1 52 = .ok (.aload_n 0, 1) := by decide +kernel
theorem d_Md_write_53 : decode M_Md_write.2.1 53 = .ok (.getfield 78, 3) := by decide +kernel
theorem d_Md_write_56 : decode M_Md_write.2.1 56 = .ok (.ireturn, 1) := by decide +kernel
theorem d_Md_wipe_0 : decode M_Md_wipe.2.1 0 = .ok (.aload_n 0, 1) := by decide +kernel
theorem d_Md_wipe_1 : decode M_Md_wipe.2.1 1 = .ok (.iconst 0, 1) := by decide +kernel
theorem d_Md_wipe_2 : decode M_Md_wipe.2.1 2 = .ok (.putfield 62, 3) := by decide +kernel
theorem d_Md_wipe_5 : decode M_Md_wipe.2.1 5 = .ok (.aload_n 0, 1) := by decide +kernel
theorem d_Md_wipe_6 : decode M_Md_wipe.2.1 6 = .ok (.getfield 78, 3) := by decide +kernel
theorem d_Md_wipe_9 : decode M_Md_wipe.2.1 9 = .ok (.istore_n 1, 1) := by decide +kernel
theorem d_Md_wipe_10 : decode M_Md_wipe.2.1 10 = .ok (.aload_n 0, 1) := by decide +kernel
theorem d_Md_wipe_11 : decode M_Md_wipe.2.1 11 = .ok (.iconst 0, 1) := by decide +kernel
theorem d_Md_wipe_12 : decode M_Md_wipe.2.1 12 = .ok (.putfield 78, 3) := by decide +kernel
theorem d_Md_wipe_15 : decode M_Md_wipe.2.1 15 = .ok (.iload_n 1, 1) := by decide +kernel
theorem d_Md_wipe_16 : decode M_Md_wipe.2.1 16 = .ok (.ireturn, 1) := by decide +kernel
theorem d_Md_figure_0 : decode M_Md_figure.2.1 0 = .ok (.aload_n 0, 1) := by decide +kernel
theorem d_Md_figure_1 : decode M_Md_figure.2.1 1 = .ok (.getfield 81, 3) := by decide +kernel
theorem d_Md_figure_4 : decode M_Md_figure.2.1 4 = .ok (.aload_n 0, 1) := by decide +kernel
theorem d_Md_figure_5 : decode M_Md_figure.2.1 5 = .ok (.getfield 78, 3) := by decide +kernel
theorem d_Md_figure_8 : decode M_Md_figure.2.1 8 = .ok (.if_icmp .eq 26, 3) := by decide +kernel
theorem d_Md_figure_11 : decode M_Md_figure.2.1 11 = .ok (.aload_n 0, 1) := by decide +kernel
theorem d_Md_figure_12 : decode M_Md_figure.2.1 12 = .ok (.getfield 7, 3) := by decide +kernel
theorem d_Md_figure_15 : decode M_Md_figure.2.1 15 = .ok (.aload_n 0, 1) := by decide +kernel
theorem d_Md_figure_16 : decode M_Md_figure.2.1 16 = .ok (.getfield 81, 3) := by decide +kernel
theorem d_Md_figure_19 : decode M_Md_figure.2.1 19 = .ok (.iaload, 1) := by decide +kernel
theorem d_Md_figure_20 : decode M_Md_figure.2.1 20 = .ok (.bipush 48, 2) := by decide +kernel
theorem d_Md_figure_22 : decode M_Md_figure.2.1 22 = .ok (.isub, 1) := by decide +kernel
theorem d_Md_figure_23 : decode M_Md_figure.2.1 23 = .ok (.i2l, 1) := by decide +kernel
theorem d_Md_figure_24 : decode M_Md_figure.2.1 24 = .ok (.iload_n 1, 1) := by decide +kernel
theorem d_Md_figure_25 : decode M_Md_figure.2.1 25 = .ok (.i2l, 1) := by decide +kernel
theorem d_Md_figure_26 : decode M_Md_figure.2.1 26 = .ok (.iload_n 2, 1) := by decide +kernel
theorem d_Md_figure_27 : decode M_Md_figure.2.1 27 = .ok (.i2l, 1) := by decide +kernel
theorem d_Md_figure_28 : decode M_Md_figure.2.1 28 = .ok (.invokestatic 69, 3) := by decide +kernel
theorem d_Md_figure_31 : decode M_Md_figure.2.1 31 = .ok (.ifCond .ne 6, 3) := by decide +kernel
theorem d_Md_figure_34 : decode M_Md_figure.2.1 34 = .ok (.bipush (-9), 2) := by decide +kernel
theorem d_Md_figure_36 : decode M_Md_figure.2.1 36 = .ok (.ireturn, 1) := by decide +kernel
theorem d_Md_figure_37 : decode M_Md_figure.2.1 37 = .ok (.aload_n 0, 1) := by decide +kernel
theorem d_Md_figure_38 : decode M_Md_figure.2.1 38 = .ok (.dup, 1) := by decide +kernel
theorem d_Md_figure_39 : decode M_Md_figure.2.1 39 = .ok (.getfield 81, 3) := by decide +kernel
theorem d_Md_figure_42 : decode M_Md_figure.2.1 42 = .ok (.iconst 1, 1) := by decide +kernel
theorem d_Md_figure_43 : decode M_Md_figure.2.1 43 = .ok (.iadd, 1) := by decide +kernel
theorem d_Md_figure_44 : decode M_Md_figure.2.1 44 = .ok (.putfield 81, 3) := by decide +kernel
theorem d_Md_figure_47 : decode M_Md_figure.2.1 47 = .ok (.aload_n 0, 1) := by decide +kernel
theorem d_Md_figure_48 : decode M_Md_figure.2.1 48 = .ok (.getfield 7, 3) := by decide +kernel
theorem d_Md_figure_51 : decode M_Md_figure.2.1 51 = .ok (.aload_n 0, 1) := by decide +kernel
theorem d_Md_figure_52 : decode M_Md_figure.2.1 52 = .ok (.getfield 81, 3) := by decide +kernel
theorem d_Md_figure_55 : decode M_Md_figure.2.1 55 = .ok (.iconst 1, 1) := by decide +kernel
theorem d_Md_figure_56 : decode M_Md_figure.2.1 56 = .ok (.isub, 1) := by decide +kernel
theorem d_Md_figure_57 : decode M_Md_figure.2.1 57 = .ok (.iaload, 1) := by decide +kernel
theorem d_Md_figure_58 : decode M_Md_figure.2.1 58 = .ok (.bipush 48, 2) := by decide +kernel
theorem d_Md_figure_60 : decode M_Md_figure.2.1 60 = .ok (.isub, 1) := by decide +kernel
theorem d_Md_figure_61 : decode M_Md_figure.2.1 61 = .ok (.ireturn, 1) := by decide +kernel
theorem d_Md_readPlace_0 : decode M_Md_readPlace.2.1 0 = .ok (.aload_n 0, 1) := by decide +kernel
theorem d_Md_readPlace_1 : decode M_Md_readPlace.2.1 1 = .ok (.getfield 81, 3) := by decide +kernel
theorem d_Md_readPlace_4 : decode M_Md_readPlace.2.1 4 = .ok (.aload_n 0, 1) := by decide +kernel
theorem d_Md_readPlace_5 : decode M_Md_readPlace.2.1 5 = .ok (.getfield 78, 3) := by decide +kernel
theorem d_Md_readPlace_8 : decode M_Md_readPlace.2.1 8 = .ok (.if_icmp .ne 8, 3) := by decide +kernel
theorem d_Md_readPlace_11 : decode M_Md_readPlace.2.1 11 = .ok (.bipush (-9), 2) := by decide +kernel
theorem d_Md_readPlace_13 : decode M_Md_readPlace.2.1 13 = .ok (.goto 15, 3) := by decide +kernel
theorem d_Md_readPlace_16 : decode M_Md_readPlace.2.1 16 = .ok (.aload_n 0, 1) := by decide +kernel
theorem d_Md_readPlace_17 : decode M_Md_readPlace.2.1 17 = .ok (.getfield 7, 3) := by decide +kernel
theorem d_Md_readPlace_20 : decode M_Md_readPlace.2.1 20 = .ok (.aload_n 0, 1) := by decide +kernel
theorem d_Md_readPlace_21 : decode M_Md_readPlace.2.1 21 = .ok (.getfield 81, 3) := by decide +kernel
theorem d_Md_readPlace_24 : decode M_Md_readPlace.2.1 24 = .ok (.iaload, 1) := by decide +kernel
theorem d_Md_readPlace_25 : decode M_Md_readPlace.2.1 25 = .ok (.bipush 48, 2) := by decide +kernel
theorem d_Md_readPlace_27 : decode M_Md_readPlace.2.1 27 = .ok (.isub, 1) := by decide +kernel
theorem d_Md_readPlace_28 : decode M_Md_readPlace.2.1 28 = .ok (.istore_n 1, 1) := by decide +kernel
theorem d_Md_readPlace_29 : decode M_Md_readPlace.2.1 29 = .ok (.iload_n 1, 1) := by decide +kernel
theorem d_Md_readPlace_30 : decode M_Md_readPlace.2.1 30 = .ok (.i2l, 1) := by decide +kernel
theorem d_Md_readPlace_31 : decode M_Md_readPlace.2.1 31 = .ok (.lconst 0, 1) := by decide +kernel
theorem d_Md_readPlace_32 : decode M_Md_readPlace.2.1 32 = .ok (.ldc2_w 84, 3) := by decide +kernel
theorem d_Md_readPlace_35 : decode M_Md_readPlace.2.1 35 = .ok (.invokestatic 69, 3) := by decide +kernel
theorem d_Md_readPlace_38 : decode M_Md_readPlace.2.1 38 = .ok (.istore_n 2, 1) := by decide +kernel
theorem d_Md_readPlace_39 : decode M_Md_readPlace.2.1 39 = .ok (.iconst 0, 1) := by decide +kernel
theorem d_Md_readPlace_40 : decode M_Md_readPlace.2.1 40 = .ok (.istore_n 3, 1) := by decide +kernel
theorem d_Md_readPlace_41 : decode M_Md_readPlace.2.1 41 = .ok (.iload_n 3, 1) := by decide +kernel
theorem d_Md_readPlace_42 : decode M_Md_readPlace.2.1 42 = .ok (.aload_n 0, 1) := by decide +kernel
theorem d_Md_readPlace_43 : decode M_Md_readPlace.2.1 43 = .ok (.getfield 86, 3) := by decide +kernel
theorem d_Md_readPlace_46 : decode M_Md_readPlace.2.1 46 = .ok (.if_icmp .ge 31, 3) := by decide +kernel
theorem d_Md_readPlace_49 : decode M_Md_readPlace.2.1 49 = .ok (.iload_n 2, 1) := by decide +kernel
theorem d_Md_readPlace_50 : decode M_Md_readPlace.2.1 50 = .ok (.ifCond .eq 19, 3) := by decide +kernel
theorem d_Md_readPlace_53 : decode M_Md_readPlace.2.1 53 = .ok (.aload_n 0, 1) := by decide +kernel
theorem d_Md_readPlace_54 : decode M_Md_readPlace.2.1 54 = .ok (.getfield 19, 3) := by decide +kernel
theorem d_Md_readPlace_57 : decode M_Md_readPlace.2.1 57 = .ok (.iconst 3, 1) := by decide +kernel
theorem d_Md_readPlace_58 : decode M_Md_readPlace.2.1 58 = .ok (.iload_n 3, 1) := by decide +kernel
theorem d_Md_readPlace_59 : decode M_Md_readPlace.2.1 59 = .ok (.imul, 1) := by decide +kernel
theorem d_Md_readPlace_60 : decode M_Md_readPlace.2.1 60 = .ok (.iaload, 1) := by decide +kernel
theorem d_Md_readPlace_61 : decode M_Md_readPlace.2.1 61 = .ok (.iload_n 1, 1) := by decide +kernel
theorem d_Md_readPlace_62 : decode M_Md_readPlace.2.1 62 = .ok (.if_icmp .eq 7, 3) := by decide +kernel
theorem d_Md_readPlace_65 : decode M_Md_readPlace.2.1 65 = .ok (.iconst 1, 1) := by decide +kernel
theorem d_Md_readPlace_66 : decode M_Md_readPlace.2.1 66 = .ok (.goto 4, 3) := by decide +kernel
theorem d_Md_readPlace_69 : decode M_Md_readPlace.2.1 69 = .ok (.iconst 0, 1) := by decide +kernel
theorem d_Md_readPlace_70 : decode M_Md_readPlace.2.1 70 = .ok (.istore_n 2, 1) := by decide +kernel
theorem d_Md_readPlace_71 : decode M_Md_readPlace.2.1 71 = .ok (.iinc 3 1, 3) := by decide +kernel
theorem d_Md_readPlace_74 : decode M_Md_readPlace.2.1 74 = .ok (.goto (-33), 3) := by decide +kernel
theorem d_Md_readPlace_77 : decode M_Md_readPlace.2.1 77 = .ok (.aload_n 0, 1) := by decide +kernel
theorem d_Md_readPlace_78 : decode M_Md_readPlace.2.1 78 = .ok (.dup, 1) := by decide +kernel
theorem d_Md_readPlace_79 : decode M_Md_readPlace.2.1 79 = .ok (.getfield 81, 3) := by decide +kernel
theorem d_Md_readPlace_82 : decode M_Md_readPlace.2.1 82 = .ok (.iload_n 2, 1) := by decide +kernel
theorem d_Md_readPlace_83 : decode M_Md_readPlace.2.1 83 = .ok (.ifCond .eq 7, 3) := by decide +kernel
theorem d_Md_readPlace_86 : decode M_Md_readPlace.2.1 86 = .ok (.iconst 1, 1) := by decide +kernel
theorem d_Md_readPlace_87 : decode M_Md_readPlace.2.1 87 = .ok (.goto 4, 3) := by decide +kernel
theorem d_Md_readPlace_90 : decode M_Md_readPlace.2.1 90 = .ok (.iconst 0, 1) := by decide +kernel
theorem d_Md_readPlace_91 : decode M_Md_readPlace.2.1 91 = .ok (.iadd, 1) := by decide +kernel
theorem d_Md_readPlace_92 : decode M_Md_readPlace.2.1 92 = .ok (.putfield 81, 3) := by decide +kernel
theorem d_Md_readPlace_95 : decode M_Md_readPlace.2.1 95 = .ok (.iload_n 2, 1) := by decide +kernel
theorem d_Md_readPlace_96 : decode M_Md_readPlace.2.1 96 = .ok (.ifCond .eq 7, 3) := by decide +kernel
theorem d_Md_readPlace_99 : decode M_Md_readPlace.2.1 99 = .ok (.iload_n 1, 1) := by decide +kernel
theorem d_Md_readPlace_100 : decode M_Md_readPlace.2.1 100 = .ok (.goto 5, 3) := by decide +kernel
theorem d_Md_readPlace_103 : decode M_Md_readPlace.2.1 103 = .ok (.bipush (-9), 2) := by decide +kernel
theorem d_Md_readPlace_105 : decode M_Md_readPlace.2.1 105 = .ok (.ireturn, 1) := by decide +kernel
theorem d_Md_readOneWindow_0 : decode M_Md_readOneWindow.2.1 0 = .ok (.aload_n 0, 1) := by decide +kernel
theorem d_Md_readOneWindow_1 : decode M_Md_readOneWindow.2.1 1 = .ok (.invokevirtual 89, 3) := by decide +kernel
theorem d_Md_readOneWindow_4 : decode M_Md_readOneWindow.2.1 4 = .ok (.istore_n 1, 1) := by decide +kernel
theorem d_Md_readOneWindow_5 : decode M_Md_readOneWindow.2.1 5 = .ok (.iload_n 1, 1) := by decide +kernel
theorem d_Md_readOneWindow_6 : decode M_Md_readOneWindow.2.1 6 = .ok (.bipush (-9), 2) := by decide +kernel
theorem d_Md_readOneWindow_8 : decode M_Md_readOneWindow.2.1 8 = .ok (.if_icmp .ne 8, 3) := by decide +kernel
theorem d_Md_readOneWindow_11 : decode M_Md_readOneWindow.2.1 11 = .ok (.bipush (-9), 2) := by decide +kernel
theorem d_Md_readOneWindow_13 : decode M_Md_readOneWindow.2.1 13 = .ok (.goto 10, 3) := by decide +kernel
theorem d_Md_readOneWindow_16 : decode M_Md_readOneWindow.2.1 16 = .ok (.aload_n 0, 1) := by decide +kernel
theorem d_Md_readOneWindow_17 : decode M_Md_readOneWindow.2.1 17 = .ok (.iconst 0, 1) := by decide +kernel
theorem d_Md_readOneWindow_18 : decode M_Md_readOneWindow.2.1 18 = .ok (.bipush 9, 2) := by decide +kernel
theorem d_Md_readOneWindow_20 : decode M_Md_readOneWindow.2.1 20 = .ok (.invokevirtual 93, 3) := by decide +kernel
theorem d_Md_readOneWindow_23 : decode M_Md_readOneWindow.2.1 23 = .ok (.istore_n 2, 1) := by decide +kernel
theorem d_Md_readOneWindow_24 : decode M_Md_readOneWindow.2.1 24 = .ok (.iload_n 2, 1) := by decide +kernel
theorem d_Md_readOneWindow_25 : decode M_Md_readOneWindow.2.1 25 = .ok (.bipush (-9), 2) := by decide +kernel
theorem d_Md_readOneWindow_27 : decode M_Md_readOneWindow.2.1 27 = .ok (.if_icmp .ne 8, 3) := by decide +kernel
theorem d_Md_readOneWindow_30 : decode M_Md_readOneWindow.2.1 30 = .ok (.bipush (-9), 2) := by decide +kernel
theorem d_Md_readOneWindow_32 : decode M_Md_readOneWindow.2.1 32 = .ok (.goto 9, 3) := by decide +kernel
theorem d_Md_readOneWindow_35 : decode M_Md_readOneWindow.2.1 35 = .ok (.aload_n 0, 1) := by decide +kernel
theorem d_Md_readOneWindow_36 : decode M_Md_readOneWindow.2.1 36 = .ok (.iconst 0, 1) := by decide +kernel
theorem d_Md_readOneWindow_37 : decode M_Md_readOneWindow.2.1 37 = .ok (.iconst 3, 1) := by decide +kernel
theorem d_Md_readOneWindow_38 : decode M_Md_readOneWindow.2.1 38 = .ok (.invokevirtual 93, 3) := by decide +kernel
theorem d_Md_readOneWindow_41 : decode M_Md_readOneWindow.2.1 41 = .ok (.istore_n 3, 1) := by decide +kernel
theorem d_Md_readOneWindow_42 : decode M_Md_readOneWindow.2.1 42 = .ok (.iload_n 3, 1) := by decide +kernel
theorem d_Md_readOneWindow_43 : decode M_Md_readOneWindow.2.1 43 = .ok (.bipush (-9), 2) := by decide +kernel
theorem d_Md_readOneWindow_45 : decode M_Md_readOneWindow.2.1 45 = .ok (.if_icmp .ne 5, 3) := by decide +kernel
theorem d_Md_readOneWindow_48 : decode M_Md_readOneWindow.2.1 48 = .ok (.iconst 0, 1) := by decide +kernel
theorem d_Md_readOneWindow_49 : decode M_Md_readOneWindow.2.1 49 = .ok (.ireturn, 1) := by decide +kernel
theorem d_Md_readOneWindow_50 : decode M_Md_readOneWindow.2.1 50 = .ok (.aload_n 0, 1) := by decide +kernel
theorem d_Md_readOneWindow_51 : decode M_Md_readOneWindow.2.1 51 = .ok (.getfield 19, 3) := by decide +kernel
theorem d_Md_readOneWindow_54 : decode M_Md_readOneWindow.2.1 54 = .ok (.iconst 3, 1) := by decide +kernel
theorem d_Md_readOneWindow_55 : decode M_Md_readOneWindow.2.1 55 = .ok (.aload_n 0, 1) := by decide +kernel
theorem d_Md_readOneWindow_56 : decode M_Md_readOneWindow.2.1 56 = .ok (.getfield 86, 3) := by decide +kernel
theorem d_Md_readOneWindow_59 : decode M_Md_readOneWindow.2.1 59 = .ok (.imul, 1) := by decide +kernel
theorem d_Md_readOneWindow_60 : decode M_Md_readOneWindow.2.1 60 = .ok (.iload_n 1, 1) := by decide +kernel
theorem d_Md_readOneWindow_61 : decode M_Md_readOneWindow.2.1 61 = .ok (.iastore, 1) := by decide +kernel
theorem d_Md_readOneWindow_62 : decode M_Md_readOneWindow.2.1 62 = .ok (.aload_n 0, 1) := by decide +kernel
theorem d_Md_readOneWindow_63 : decode M_Md_readOneWindow.2.1 63 = .ok (.getfield 19, 3) := by decide +kernel
theorem d_Md_readOneWindow_66 : decode M_Md_readOneWindow.2.1 66 = .ok (.iconst 3, 1) := by decide +kernel
theorem d_Md_readOneWindow_67 : decode M_Md_readOneWindow.2.1 67 = .ok (.aload_n 0, 1) := by decide +kernel
theorem d_Md_readOneWindow_68 : decode M_Md_readOneWindow.2.1 68 = .ok (.getfield 86, 3) := by decide +kernel
theorem d_Md_readOneWindow_71 : decode M_Md_readOneWindow.2.1 71 = .ok (.imul, 1) := by decide +kernel
theorem d_Md_readOneWindow_72 : decode M_Md_readOneWindow.2.1 72 = .ok (.iconst 1, 1) := by decide +kernel
theorem d_Md_readOneWindow_73 : decode M_Md_readOneWindow.2.1 73 = .ok (.iadd, 1) := by decide +kernel
theorem d_Md_readOneWindow_74 : decode M_Md_readOneWindow.2.1 74 = .ok (.iload_n 2, 1) := by decide +kernel
theorem d_Md_readOneWindow_75 : decode M_Md_readOneWindow.2.1 75 = .ok (.iastore, 1) := by decide +kernel
theorem d_Md_readOneWindow_76 : decode M_Md_readOneWindow.2.1 76 = .ok (.aload_n 0, 1) := by decide +kernel
theorem d_Md_readOneWindow_77 : decode M_Md_readOneWindow.2.1 77 = .ok (.getfield 19, 3) := by decide +kernel
theorem d_Md_readOneWindow_80 : decode M_Md_readOneWindow.2.1 80 = .ok (.iconst 3, 1) := by decide +kernel
theorem d_Md_readOneWindow_81 : decode M_Md_readOneWindow.2.1 81 = .ok (.aload_n 0, 1) := by decide +kernel
theorem d_Md_readOneWindow_82 : decode M_Md_readOneWindow.2.1 82 = .ok (.getfield 86, 3) := by decide +kernel
theorem d_Md_readOneWindow_85 : decode M_Md_readOneWindow.2.1 85 = .ok (.imul, 1) := by decide +kernel
theorem d_Md_readOneWindow_86 : decode M_Md_readOneWindow.2.1 86 = .ok (.iconst 2, 1) := by decide +kernel
theorem d_Md_readOneWindow_87 : decode M_Md_readOneWindow.2.1 87 = .ok (.iadd, 1) := by decide +kernel
theorem d_Md_readOneWindow_88 : decode M_Md_readOneWindow.2.1 88 = .ok (.iload_n 3, 1) := by decide +kernel
theorem d_Md_readOneWindow_89 : decode M_Md_readOneWindow.2.1 89 = .ok (.iastore, 1) := by decide +kernel
theorem d_Md_readOneWindow_90 : decode M_Md_readOneWindow.2.1 90 = .ok (.aload_n 0, 1) := by decide +kernel
theorem d_Md_readOneWindow_91 : decode M_Md_readOneWindow.2.1 91 = .ok (.dup, 1) := by decide +kernel
theorem d_Md_readOneWindow_92 : decode M_Md_readOneWindow.2.1 92 = .ok (.getfield 86, 3) := by decide +kernel
theorem d_Md_readOneWindow_95 : decode M_Md_readOneWindow.2.1 95 = .ok (.iconst 1, 1) := by decide +kernel
theorem d_Md_readOneWindow_96 : decode M_Md_readOneWindow.2.1 96 = .ok (.iadd, 1) := by decide +kernel
theorem d_Md_readOneWindow_97 : decode M_Md_readOneWindow.2.1 97 = .ok (.putfield 86, 3) := by decide +kernel
theorem d_Md_readOneWindow_100 : decode M_Md_readOneWindow.2.1 100 = .ok (.iconst 1, 1) := by decide +kernel
theorem d_Md_readOneWindow_101 : decode M_Md_readOneWindow.2.1 101 = .ok (.ireturn, 1) := by decide +kernel
theorem d_Md_readOneMoth_0 : decode M_Md_readOneMoth.2.1 0 = .ok (.aload_n 0, 1) := by decide +kernel
theorem d_Md_readOneMoth_1 : decode M_Md_readOneMoth.2.1 1 = .ok (.iconst 0, 1) := by decide +kernel
theorem d_Md_readOneMoth_2 : decode M_Md_readOneMoth.2.1 2 = .ok (.bipush 8, 2) := by decide +kernel
theorem d_Md_readOneMoth_4 : decode M_Md_readOneMoth.2.1 4 = .ok (.invokevirtual 93, 3) := by decide +kernel
theorem d_Md_readOneMoth_7 : decode M_Md_readOneMoth.2.1 7 = .ok (.istore_n 1, 1) := by decide +kernel
theorem d_Md_readOneMoth_8 : decode M_Md_readOneMoth.2.1 8 = .ok (.iload_n 1, 1) := by decide +kernel
theorem d_Md_readOneMoth_9 : decode M_Md_readOneMoth.2.1 9 = .ok (.bipush (-9), 2) := by decide +kernel
theorem d_Md_readOneMoth_11 : decode M_Md_readOneMoth.2.1 11 = .ok (.if_icmp .ne 8, 3) := by decide +kernel
theorem d_Md_readOneMoth_14 : decode M_Md_readOneMoth.2.1 14 = .ok (.bipush (-9), 2) := by decide +kernel
theorem d_Md_readOneMoth_16 : decode M_Md_readOneMoth.2.1 16 = .ok (.goto 9, 3) := by decide +kernel
theorem d_Md_readOneMoth_19 : decode M_Md_readOneMoth.2.1 19 = .ok (.aload_n 0, 1) := by decide +kernel
theorem d_Md_readOneMoth_20 : decode M_Md_readOneMoth.2.1 20 = .ok (.iconst 0, 1) := by decide +kernel
theorem d_Md_readOneMoth_21 : decode M_Md_readOneMoth.2.1 21 = .ok (.iconst 3, 1) := by decide +kernel
theorem d_Md_readOneMoth_22 : decode M_Md_readOneMoth.2.1 22 = .ok (.invokevirtual 93, 3) := by decide +kernel
theorem d_Md_readOneMoth_25 : decode M_Md_readOneMoth.2.1 25 = .ok (.istore_n 2, 1) := by decide +kernel
theorem d_Md_readOneMoth_26 : decode M_Md_readOneMoth.2.1 26 = .ok (.iload_n 2, 1) := by decide +kernel
theorem d_Md_readOneMoth_27 : decode M_Md_readOneMoth.2.1 27 = .ok (.bipush (-9), 2) := by decide +kernel
theorem d_Md_readOneMoth_29 : decode M_Md_readOneMoth.2.1 29 = .ok (.if_icmp .ne 5, 3) := by decide +kernel
theorem d_Md_readOneMoth_32 : decode M_Md_readOneMoth.2.1 32 = .ok (.iconst 0, 1) := by decide +kernel
theorem d_Md_readOneMoth_33 : decode M_Md_readOneMoth.2.1 33 = .ok (.ireturn, 1) := by decide +kernel
theorem d_Md_readOneMoth_34 : decode M_Md_readOneMoth.2.1 34 = .ok (.aload_n 0, 1) := by decide +kernel
theorem d_Md_readOneMoth_35 : decode M_Md_readOneMoth.2.1 35 = .ok (.getfield 22, 3) := by decide +kernel
theorem d_Md_readOneMoth_38 : decode M_Md_readOneMoth.2.1 38 = .ok (.iconst 2, 1) := by decide +kernel
theorem d_Md_readOneMoth_39 : decode M_Md_readOneMoth.2.1 39 = .ok (.aload_n 0, 1) := by decide +kernel
theorem d_Md_readOneMoth_40 : decode M_Md_readOneMoth.2.1 40 = .ok (.getfield 97, 3) := by decide +kernel
theorem d_Md_readOneMoth_43 : decode M_Md_readOneMoth.2.1 43 = .ok (.imul, 1) := by decide +kernel
theorem d_Md_readOneMoth_44 : decode M_Md_readOneMoth.2.1 44 = .ok (.iload_n 1, 1) := by decide +kernel
theorem d_Md_readOneMoth_45 : decode M_Md_readOneMoth.2.1 45 = .ok (.iastore, 1) := by decide +kernel
theorem d_Md_readOneMoth_46 : decode M_Md_readOneMoth.2.1 46 = .ok (.aload_n 0, 1) := by decide +kernel
theorem d_Md_readOneMoth_47 : decode M_Md_readOneMoth.2.1 47 = .ok (.getfield 22, 3) := by decide +kernel
theorem d_Md_readOneMoth_50 : decode M_Md_readOneMoth.2.1 50 = .ok (.iconst 2, 1) := by decide +kernel
theorem d_Md_readOneMoth_51 : decode M_Md_readOneMoth.2.1 51 = .ok (.aload_n 0, 1) := by decide +kernel
theorem d_Md_readOneMoth_52 : decode M_Md_readOneMoth.2.1 52 = .ok (.getfield 97, 3) := by decide +kernel
theorem d_Md_readOneMoth_55 : decode M_Md_readOneMoth.2.1 55 = .ok (.imul, 1) := by decide +kernel
theorem d_Md_readOneMoth_56 : decode M_Md_readOneMoth.2.1 56 = .ok (.iconst 1, 1) := by decide +kernel
theorem d_Md_readOneMoth_57 : decode M_Md_readOneMoth.2.1 57 = .ok (.iadd, 1) := by decide +kernel
theorem d_Md_readOneMoth_58 : decode M_Md_readOneMoth.2.1 58 = .ok (.iload_n 2, 1) := by decide +kernel
theorem d_Md_readOneMoth_59 : decode M_Md_readOneMoth.2.1 59 = .ok (.iastore, 1) := by decide +kernel
theorem d_Md_readOneMoth_60 : decode M_Md_readOneMoth.2.1 60 = .ok (.aload_n 0, 1) := by decide +kernel
theorem d_Md_readOneMoth_61 : decode M_Md_readOneMoth.2.1 61 = .ok (.dup, 1) := by decide +kernel
theorem d_Md_readOneMoth_62 : decode M_Md_readOneMoth.2.1 62 = .ok (.getfield 97, 3) := by decide +kernel
theorem d_Md_readOneMoth_65 : decode M_Md_readOneMoth.2.1 65 = .ok (.iconst 1, 1) := by decide +kernel
theorem d_Md_readOneMoth_66 : decode M_Md_readOneMoth.2.1 66 = .ok (.iadd, 1) := by decide +kernel
theorem d_Md_readOneMoth_67 : decode M_Md_readOneMoth.2.1 67 = .ok (.putfield 97, 3) := by decide +kernel
theorem d_Md_readOneMoth_70 : decode M_Md_readOneMoth.2.1 70 = .ok (.iconst 1, 1) := by decide +kernel
theorem d_Md_readOneMoth_71 : decode M_Md_readOneMoth.2.1 71 = .ok (.ireturn, 1) := by decide +kernel
theorem d_Md_readPart_0 : decode M_Md_readPart.2.1 0 = .ok (.aload_n 0, 1) := by decide +kernel
theorem d_Md_readPart_1 : decode M_Md_readPart.2.1 1 = .ok (.getfield 7, 3) := by decide +kernel
theorem d_Md_readPart_4 : decode M_Md_readPart.2.1 4 = .ok (.aload_n 0, 1) := by decide +kernel
theorem d_Md_readPart_5 : decode M_Md_readPart.2.1 5 = .ok (.getfield 81, 3) := by decide +kernel
theorem d_Md_readPart_8 : decode M_Md_readPart.2.1 8 = .ok (.iaload, 1) := by decide +kernel
theorem d_Md_readPart_9 : decode M_Md_readPart.2.1 9 = .ok (.istore_n 1, 1) := by decide +kernel
theorem d_Md_readPart_10 : decode M_Md_readPart.2.1 10 = .ok (.aload_n 0, 1) := by decide +kernel
theorem d_Md_readPart_11 : decode M_Md_readPart.2.1 11 = .ok (.dup, 1) := by decide +kernel
theorem d_Md_readPart_12 : decode M_Md_readPart.2.1 12 = .ok (.getfield 81, 3) := by decide +kernel
theorem d_Md_readPart_15 : decode M_Md_readPart.2.1 15 = .ok (.iconst 1, 1) := by decide +kernel
theorem d_Md_readPart_16 : decode M_Md_readPart.2.1 16 = .ok (.iadd, 1) := by decide +kernel
theorem d_Md_readPart_17 : decode M_Md_readPart.2.1 17 = .ok (.putfield 81, 3) := by decide +kernel
theorem d_Md_readPart_20 : decode M_Md_readPart.2.1 20 = .ok (.iload_n 1, 1) := by decide +kernel
theorem d_Md_readPart_21 : decode M_Md_readPart.2.1 21 = .ok (.bipush 87, 2) := by decide +kernel
theorem d_Md_readPart_23 : decode M_Md_readPart.2.1 23 = .ok (.if_icmp .ne 16, 3) := by decide +kernel
theorem d_Md_readPart_26 : decode M_Md_readPart.2.1 26 = .ok (.aload_n 0, 1) := by decide +kernel
theorem d_Md_readPart_27 : decode M_Md_readPart.2.1 27 = .ok (.getfield 86, 3) := by decide +kernel
theorem d_Md_readPart_30 : decode M_Md_readPart.2.1 30 = .ok (.iconst 5, 1) := by decide +kernel
theorem d_Md_readPart_31 : decode M_Md_readPart.2.1 31 = .ok (.if_icmp .ge 8, 3) := by decide +kernel
theorem d_Md_readPart_34 : decode M_Md_readPart.2.1 34 = .ok (.aload_n 0, 1) := by decide +kernel
theorem d_Md_readPart_35 : decode M_Md_readPart.2.1 35 = .ok (.invokevirtual 100, 3) := by decide +kernel
theorem d_Md_readPart_38 : decode M_Md_readPart.2.1 38 = .ok (.ireturn, 1) := by decide +kernel
theorem d_Md_readPart_39 : decode M_Md_readPart.2.1 39 = .ok (.iload_n 1, 1) := by decide +kernel
theorem d_Md_readPart_40 : decode M_Md_readPart.2.1 40 = .ok (.bipush 77, 2) := by decide +kernel
theorem d_Md_readPart_42 : decode M_Md_readPart.2.1 42 = .ok (.if_icmp .ne 17, 3) := by decide +kernel
theorem d_Md_readPart_45 : decode M_Md_readPart.2.1 45 = .ok (.aload_n 0, 1) := by decide +kernel
theorem d_Md_readPart_46 : decode M_Md_readPart.2.1 46 = .ok (.getfield 97, 3) := by decide +kernel
theorem d_Md_readPart_49 : decode M_Md_readPart.2.1 49 = .ok (.bipush 6, 2) := by decide +kernel
theorem d_Md_readPart_51 : decode M_Md_readPart.2.1 51 = .ok (.if_icmp .ge 8, 3) := by decide +kernel
theorem d_Md_readPart_54 : decode M_Md_readPart.2.1 54 = .ok (.aload_n 0, 1) := by decide +kernel
theorem d_Md_readPart_55 : decode M_Md_readPart.2.1 55 = .ok (.invokevirtual 104, 3) := by decide +kernel
theorem d_Md_readPart_58 : decode M_Md_readPart.2.1 58 = .ok (.ireturn, 1) := by decide +kernel
theorem d_Md_readPart_59 : decode M_Md_readPart.2.1 59 = .ok (.aload_n 0, 1) := by decide +kernel
theorem d_Md_readPart_60 : decode M_Md_readPart.2.1 60 = .ok (.dup, 1) := by decide +kernel
theorem d_Md_readPart_61 : decode M_Md_readPart.2.1 61 = .ok (.getfield 81, 3) := by decide +kernel
theorem d_Md_readPart_64 : decode M_Md_readPart.2.1 64 = .ok (.iconst 1, 1) := by decide +kernel
theorem d_Md_readPart_65 : decode M_Md_readPart.2.1 65 = .ok (.isub, 1) := by decide +kernel
theorem d_Md_readPart_66 : decode M_Md_readPart.2.1 66 = .ok (.putfield 81, 3) := by decide +kernel
theorem d_Md_readPart_69 : decode M_Md_readPart.2.1 69 = .ok (.iconst 0, 1) := by decide +kernel
theorem d_Md_readPart_70 : decode M_Md_readPart.2.1 70 = .ok (.ireturn, 1) := by decide +kernel
theorem d_Md_readStreet_0 : decode M_Md_readStreet.2.1 0 = .ok (.aload_n 0, 1) := by decide +kernel
theorem d_Md_readStreet_1 : decode M_Md_readStreet.2.1 1 = .ok (.iconst 0, 1) := by decide +kernel
theorem d_Md_readStreet_2 : decode M_Md_readStreet.2.1 2 = .ok (.putfield 81, 3) := by decide +kernel
theorem d_Md_readStreet_5 : decode M_Md_readStreet.2.1 5 = .ok (.aload_n 0, 1) := by decide +kernel
theorem d_Md_readStreet_6 : decode M_Md_readStreet.2.1 6 = .ok (.iconst 0, 1) := by decide +kernel
theorem d_Md_readStreet_7 : decode M_Md_readStreet.2.1 7 = .ok (.putfield 86, 3) := by decide +kernel
theorem d_Md_readStreet_10 : decode M_Md_readStreet.2.1 10 = .ok (.aload_n 0, 1) := by decide +kernel
theorem d_Md_readStreet_11 : decode M_Md_readStreet.2.1 11 = .ok (.iconst 0, 1) := by decide +kernel
theorem d_Md_readStreet_12 : decode M_Md_readStreet.2.1 12 = .ok (.putfield 97, 3) := by decide +kernel
theorem d_Md_readStreet_15 : decode M_Md_readStreet.2.1 15 = .ok (.aload_n 0, 1) := by decide +kernel
theorem d_Md_readStreet_16 : decode M_Md_readStreet.2.1 16 = .ok (.getfield 78, 3) := by decide +kernel
theorem d_Md_readStreet_19 : decode M_Md_readStreet.2.1 19 = .ok (.ifCond .eq 14, 3) := by decide +kernel
theorem d_Md_readStreet_22 : decode M_Md_readStreet.2.1 22 = .ok (.aload_n 0, 1) := by decide +kernel
theorem d_Md_readStreet_23 : decode M_Md_readStreet.2.1 23 = .ok (.getfield 7, 3) := by decide +kernel
theorem d_Md_readStreet_26 : decode M_Md_readStreet.2.1 26 = .ok (.iconst 0, 1) := by decide +kernel
theorem d_Md_readStreet_27 : decode M_Md_readStreet.2.1 27 = .ok (.iaload, 1) := by decide +kernel
theorem d_Md_readStreet_28 : decode M_Md_readStreet.2.1 28 = .ok (.bipush 76, 2) := by decide +kernel
theorem d_Md_readStreet_30 : decode M_Md_readStreet.2.1 30 = .ok (.if_icmp .eq 5, 3) := by decide +kernel
theorem d_Md_readStreet_33 : decode M_Md_readStreet.2.1 33 = .ok (.iconst 0, 1) := by decide +kernel
theorem d_Md_readStreet_34 : decode M_Md_readStreet.2.1 34 = .ok (.ireturn, 1) := by decide +kernel
theorem d_Md_readStreet_35 : decode M_Md_readStreet.2.1 35 = .ok (.aload_n 0, 1) := by decide +kernel
theorem d_Md_readStreet_36 : decode M_Md_readStreet.2.1 36 = .ok (.iconst 1, 1) := by decide +kernel
theorem d_Md_readStreet_37 : decode M_Md_readStreet.2.1 37 = .ok (.putfield 81, 3) := by decide +kernel
theorem d_Md_readStreet_40 : decode M_Md_readStreet.2.1 40 = .ok (.aload_n 0, 1) := by decide +kernel
theorem d_Md_readStreet_41 : decode M_Md_readStreet.2.1 41 = .ok (.aload_n 0, 1) := by decide +kernel
theorem d_Md_readStreet_42 : decode M_Md_readStreet.2.1 42 = .ok (.iconst 0, 1) := by decide +kernel
theorem d_Md_readStreet_43 : decode M_Md_readStreet.2.1 43 = .ok (.iconst 2, 1) := by decide +kernel
theorem d_Md_readStreet_44 : decode M_Md_readStreet.2.1 44 = .ok (.invokevirtual 93, 3) := by decide +kernel
theorem d_Md_readStreet_47 : decode M_Md_readStreet.2.1 47 = .ok (.putfield 107, 3) := by decide +kernel
theorem d_Md_readStreet_50 : decode M_Md_readStreet.2.1 50 = .ok (.aload_n 0, 1) := by decide +kernel
theorem d_Md_readStreet_51 : decode M_Md_readStreet.2.1 51 = .ok (.aload_n 0, 1) := by decide +kernel
theorem d_Md_readStreet_52 : decode M_Md_readStreet.2.1 52 = .ok (.getfield 107, 3) := by decide +kernel
theorem d_Md_readStreet_55 : decode M_Md_readStreet.2.1 55 = .ok (.bipush (-9), 2) := by decide +kernel
theorem d_Md_readStreet_57 : decode M_Md_readStreet.2.1 57 = .ok (.if_icmp .ne 8, 3) := by decide +kernel
theorem d_Md_readStreet_60 : decode M_Md_readStreet.2.1 60 = .ok (.bipush (-9), 2) := by decide +kernel
theorem d_Md_readStreet_62 : decode M_Md_readStreet.2.1 62 = .ok (.goto 10, 3) := by decide +kernel
theorem d_Md_readStreet_65 : decode M_Md_readStreet.2.1 65 = .ok (.aload_n 0, 1) := by decide +kernel
theorem d_Md_readStreet_66 : decode M_Md_readStreet.2.1 66 = .ok (.iconst 0, 1) := by decide +kernel
theorem d_Md_readStreet_67 : decode M_Md_readStreet.2.1 67 = .ok (.bipush 9, 2) := by decide +kernel
theorem d_Md_readStreet_69 : decode M_Md_readStreet.2.1 69 = .ok (.invokevirtual 93, 3) := by decide +kernel
theorem d_Md_readStreet_72 : decode M_Md_readStreet.2.1 72 = .ok (.putfield 110, 3) := by decide +kernel
theorem d_Md_readStreet_75 : decode M_Md_readStreet.2.1 75 = .ok (.aload_n 0, 1) := by decide +kernel
theorem d_Md_readStreet_76 : decode M_Md_readStreet.2.1 76 = .ok (.getfield 110, 3) := by decide +kernel
theorem d_Md_readStreet_79 : decode M_Md_readStreet.2.1 79 = .ok (.bipush (-9), 2) := by decide +kernel
theorem d_Md_readStreet_81 : decode M_Md_readStreet.2.1 81 = .ok (.if_icmp .ne 8, 3) := by decide +kernel
theorem d_Md_readStreet_84 : decode M_Md_readStreet.2.1 84 = .ok (.aload_n 0, 1) := by decide +kernel
theorem d_Md_readStreet_85 : decode M_Md_readStreet.2.1 85 = .ok (.getfield 81, 3) := by decide +kernel
theorem d_Md_readStreet_88 : decode M_Md_readStreet.2.1 88 = .ok (.ireturn, 1) := by decide +kernel
theorem d_Md_readStreet_89 : decode M_Md_readStreet.2.1 89 = .ok (.aload_n 0, 1) := by decide +kernel
theorem d_Md_readStreet_90 : decode M_Md_readStreet.2.1 90 = .ok (.getfield 81, 3) := by decide +kernel
theorem d_Md_readStreet_93 : decode M_Md_readStreet.2.1 93 = .ok (.aload_n 0, 1) := by decide +kernel
theorem d_Md_readStreet_94 : decode M_Md_readStreet.2.1 94 = .ok (.getfield 78, 3) := by decide +kernel
theorem d_Md_readStreet_97 : decode M_Md_readStreet.2.1 97 = .ok (.if_icmp .ge 15, 3) := by decide +kernel
theorem d_Md_readStreet_100 : decode M_Md_readStreet.2.1 100 = .ok (.aload_n 0, 1) := by decide +kernel
theorem d_Md_readStreet_101 : decode M_Md_readStreet.2.1 101 = .ok (.invokevirtual 113, 3) := by decide +kernel
theorem d_Md_readStreet_104 : decode M_Md_readStreet.2.1 104 = .ok (.ifCond .ne (-15), 3) := by decide +kernel
theorem d_Md_readStreet_107 : decode M_Md_readStreet.2.1 107 = .ok (.aload_n 0, 1) := by decide +kernel
theorem d_Md_readStreet_108 : decode M_Md_readStreet.2.1 108 = .ok (.getfield 81, 3) := by decide +kernel
theorem d_Md_readStreet_111 : decode M_Md_readStreet.2.1 111 = .ok (.ireturn, 1) := by decide +kernel
theorem d_Md_readStreet_112 : decode M_Md_readStreet.2.1 112 = .ok (.bipush (-9), 2) := by decide +kernel
theorem d_Md_readStreet_114 : decode M_Md_readStreet.2.1 114 = .ok (.ireturn, 1) := by decide +kernel
theorem d_Md_fault_0 : decode M_Md_fault.2.1 0 = .ok (.aload_n 0, 1) := by decide +kernel
theorem d_Md_fault_1 : decode M_Md_fault.2.1 1 = .ok (.iconst 0, 1) := by decide +kernel
theorem d_Md_fault_2 : decode M_Md_fault.2.1 2 = .ok (.putfield 62, 3) := by decide +kernel
theorem d_Md_fault_5 : decode M_Md_fault.2.1 5 = .ok (.aload_n 0, 1) := by decide +kernel
theorem d_Md_fault_6 : decode M_Md_fault.2.1 6 = .ok (.invokevirtual 116, 3) := by decide +kernel
theorem d_Md_fault_9 : decode M_Md_fault.2.1 9 = .ok (.ireturn, 1) := by decide +kernel
theorem d_Md_street_0 : decode M_Md_street.2.1 0 = .ok (.aload_n 0, 1) := by decide +kernel
theorem d_Md_street_1 : decode M_Md_street.2.1 1 = .ok (.iconst 0, 1) := by decide +kernel
theorem d_Md_street_2 : decode M_Md_street.2.1 2 = .ok (.putfield 62, 3) := by decide +kernel
theorem d_Md_street_5 : decode M_Md_street.2.1 5 = .ok (.aload_n 0, 1) := by decide +kernel
theorem d_Md_street_6 : decode M_Md_street.2.1 6 = .ok (.invokevirtual 116, 3) := by decide +kernel
theorem d_Md_street_9 : decode M_Md_street.2.1 9 = .ok (.bipush (-9), 2) := by decide +kernel
theorem d_Md_street_11 : decode M_Md_street.2.1 11 = .ok (.if_icmp .eq 6, 3) := by decide +kernel
theorem d_Md_street_14 : decode M_Md_street.2.1 14 = .ok (.bipush (-3), 2) := by decide +kernel
theorem d_Md_street_16 : decode M_Md_street.2.1 16 = .ok (.ireturn, 1) := by decide +kernel
theorem d_Md_street_17 : decode M_Md_street.2.1 17 = .ok (.aload_n 0, 1) := by decide +kernel
theorem d_Md_street_18 : decode M_Md_street.2.1 18 = .ok (.aload_n 0, 1) := by decide +kernel
theorem d_Md_street_19 : decode M_Md_street.2.1 19 = .ok (.getfield 86, 3) := by decide +kernel
theorem d_Md_street_22 : decode M_Md_street.2.1 22 = .ok (.putfield 66, 3) := by decide +kernel
theorem d_Md_street_25 : decode M_Md_street.2.1 25 = .ok (.aload_n 0, 1) := by decide +kernel
theorem d_Md_street_26 : decode M_Md_street.2.1 26 = .ok (.aload_n 0, 1) := by decide +kernel
theorem d_Md_street_27 : decode M_Md_street.2.1 27 = .ok (.getfield 97, 3) := by decide +kernel
theorem d_Md_street_30 : decode M_Md_street.2.1 30 = .ok (.putfield 73, 3) := by decide +kernel
theorem d_Md_street_33 : decode M_Md_street.2.1 33 = .ok (.iconst 0, 1) := by decide +kernel
theorem d_Md_street_34 : decode M_Md_street.2.1 34 = .ok (.istore_n 1, 1) := by decide +kernel
theorem d_Md_street_35 : decode M_Md_street.2.1 35 = .ok (.iload_n 1, 1) := by decide +kernel
theorem d_Md_street_36 : decode M_Md_street.2.1 36 = .ok (.bipush 24, 2) := by decide +kernel
theorem d_Md_street_38 : decode M_Md_street.2.1 38 = .ok (.if_icmp .ge 16, 3) := by decide +kernel
theorem d_Md_street_41 : decode M_Md_street.2.1 41 = .ok (.aload_n 0, 1) := by decide +kernel
theorem d_Md_street_42 : decode M_Md_street.2.1 42 = .ok (.getfield 25, 3) := by decide +kernel
theorem d_Md_street_45 : decode M_Md_street.2.1 45 = .ok (.iload_n 1, 1) := by decide +kernel
theorem d_Md_street_46 : decode M_Md_street.2.1 46 = .ok (.iconst 0, 1) := by decide +kernel
theorem d_Md_street_47 : decode M_Md_street.2.1 47 = .ok (.iastore, 1) := by decide +kernel
theorem d_Md_street_48 : decode M_Md_street.2.1 48 = .ok (.iinc 1 1, 3) := by decide +kernel
theorem d_Md_street_51 : decode M_Md_street.2.1 51 = .ok (.goto (-16), 3) := by decide +kernel
theorem d_Md_street_54 : decode M_Md_street.2.1 54 = .ok (.iconst 0, 1) := by decide +kernel
theorem d_Md_street_55 : decode M_Md_street.2.1 55 = .ok (.istore_n 1, 1) := by decide +kernel
theorem d_Md_street_56 : decode M_Md_street.2.1 56 = .ok (.iload_n 1, 1) := by decide +kernel
theorem d_Md_street_57 : decode M_Md_street.2.1 57 = .ok (.aload_n 0, 1) := by decide +kernel
theorem d_Md_street_58 : decode M_Md_street.2.1 58 = .ok (.getfield 66, 3) := by decide +kernel
theorem d_Md_street_61 : decode M_Md_street.2.1 61 = .ok (.if_icmp .ge 60, 3) := by decide +kernel
theorem d_Md_street_64 : decode M_Md_street.2.1 64 = .ok (.aload_n 0, 1) := by decide +kernel
theorem d_Md_street_65 : decode M_Md_street.2.1 65 = .ok (.getfield 25, 3) := by decide +kernel
theorem d_Md_street_68 : decode M_Md_street.2.1 68 = .ok (.bipush 19, 2) := by decide +kernel
theorem d_Md_street_70 : decode M_Md_street.2.1 70 = .ok (.iload_n 1, 1) := by decide +kernel
theorem d_Md_street_71 : decode M_Md_street.2.1 71 = .ok (.iadd, 1) := by decide +kernel
theorem d_Md_street_72 : decode M_Md_street.2.1 72 = .ok (.aload_n 0, 1) := by decide +kernel
theorem d_Md_street_73 : decode M_Md_street.2.1 73 = .ok (.getfield 19, 3) := by decide +kernel
theorem d_Md_street_76 : decode M_Md_street.2.1 76 = .ok (.iconst 3, 1) := by decide +kernel
theorem d_Md_street_77 : decode M_Md_street.2.1 77 = .ok (.iload_n 1, 1) := by decide +kernel
theorem d_Md_street_78 : decode M_Md_street.2.1 78 = .ok (.imul, 1) := by decide +kernel
theorem d_Md_street_79 : decode M_Md_street.2.1 79 = .ok (.iaload, 1) := by decide +kernel
theorem d_Md_street_80 : decode M_Md_street.2.1 80 = .ok (.iastore, 1) := by decide +kernel
theorem d_Md_street_81 : decode M_Md_street.2.1 81 = .ok (.aload_n 0, 1) := by decide +kernel
theorem d_Md_street_82 : decode M_Md_street.2.1 82 = .ok (.getfield 25, 3) := by decide +kernel
theorem d_Md_street_85 : decode M_Md_street.2.1 85 = .ok (.iconst 0, 1) := by decide +kernel
theorem d_Md_street_86 : decode M_Md_street.2.1 86 = .ok (.iload_n 1, 1) := by decide +kernel
theorem d_Md_street_87 : decode M_Md_street.2.1 87 = .ok (.iadd, 1) := by decide +kernel
theorem d_Md_street_88 : decode M_Md_street.2.1 88 = .ok (.aload_n 0, 1) := by decide +kernel
theorem d_Md_street_89 : decode M_Md_street.2.1 89 = .ok (.getfield 19, 3) := by decide +kernel
theorem d_Md_street_92 : decode M_Md_street.2.1 92 = .ok (.iconst 3, 1) := by decide +kernel
theorem d_Md_street_93 : decode M_Md_street.2.1 93 = .ok (.iload_n 1, 1) := by decide +kernel
theorem d_Md_street_94 : decode M_Md_street.2.1 94 = .ok (.imul, 1) := by decide +kernel
theorem d_Md_street_95 : decode M_Md_street.2.1 95 = .ok (.iconst 1, 1) := by decide +kernel
theorem d_Md_street_96 : decode M_Md_street.2.1 96 = .ok (.iadd, 1) := by decide +kernel
theorem d_Md_street_97 : decode M_Md_street.2.1 97 = .ok (.iaload, 1) := by decide +kernel
theorem d_Md_street_98 : decode M_Md_street.2.1 98 = .ok (.iastore, 1) := by decide +kernel
theorem d_Md_street_99 : decode M_Md_street.2.1 99 = .ok (.aload_n 0, 1) := by decide +kernel
theorem d_Md_street_100 : decode M_Md_street.2.1 100 = .ok (.getfield 13, 3) := by decide +kernel
theorem d_Md_street_103 : decode M_Md_street.2.1 103 = .ok (.iload_n 1, 1) := by decide +kernel
theorem d_Md_street_104 : decode M_Md_street.2.1 104 = .ok (.aload_n 0, 1) := by decide +kernel
theorem d_Md_street_105 : decode M_Md_street.2.1 105 = .ok (.getfield 19, 3) := by decide +kernel
theorem d_Md_street_108 : decode M_Md_street.2.1 108 = .ok (.iconst 3, 1) := by decide +kernel
theorem d_Md_street_109 : decode M_Md_street.2.1 109 = .ok (.iload_n 1, 1) := by decide +kernel
theorem d_Md_street_110 : decode M_Md_street.2.1 110 = .ok (.imul, 1) := by decide +kernel
theorem d_Md_street_111 : decode M_Md_street.2.1 111 = .ok (.iconst 2, 1) := by decide +kernel
theorem d_Md_street_112 : decode M_Md_street.2.1 112 = .ok (.iadd, 1) := by decide +kernel
theorem d_Md_street_113 : decode M_Md_street.2.1 113 = .ok (.iaload, 1) := by decide +kernel
theorem d_Md_street_114 : decode M_Md_street.2.1 114 = .ok (.iastore, 1) := by decide +kernel
theorem d_Md_street_115 : decode M_Md_street.2.1 115 = .ok (.iinc 1 1, 3) := by decide +kernel
theorem d_Md_street_118 : decode M_Md_street.2.1 118 = .ok (.goto (-62), 3) := by decide +kernel
theorem d_Md_street_121 : decode M_Md_street.2.1 121 = .ok (.iconst 0, 1) := by decide +kernel
theorem d_Md_street_122 : decode M_Md_street.2.1 122 = .ok (.istore_n 1, 1) := by decide +kernel
theorem d_Md_street_123 : decode M_Md_street.2.1 123 = .ok (.iload_n 1, 1) := by decide +kernel
theorem d_Md_street_124 : decode M_Md_street.2.1 124 = .ok (.aload_n 0, 1) := by decide +kernel
theorem d_Md_street_125 : decode M_Md_street.2.1 125 = .ok (.getfield 73, 3) := by decide +kernel
theorem d_Md_street_128 : decode M_Md_street.2.1 128 = .ok (.if_icmp .ge 42, 3) := by decide +kernel
theorem d_Md_street_131 : decode M_Md_street.2.1 131 = .ok (.aload_n 0, 1) := by decide +kernel
theorem d_Md_street_132 : decode M_Md_street.2.1 132 = .ok (.getfield 25, 3) := by decide +kernel
theorem d_Md_street_135 : decode M_Md_street.2.1 135 = .ok (.bipush 10, 2) := by decide +kernel
theorem d_Md_street_137 : decode M_Md_street.2.1 137 = .ok (.iload_n 1, 1) := by decide +kernel
theorem d_Md_street_138 : decode M_Md_street.2.1 138 = .ok (.iadd, 1) := by decide +kernel
theorem d_Md_street_139 : decode M_Md_street.2.1 139 = .ok (.aload_n 0, 1) := by decide +kernel
theorem d_Md_street_140 : decode M_Md_street.2.1 140 = .ok (.getfield 22, 3) := by decide +kernel
theorem d_Md_street_143 : decode M_Md_street.2.1 143 = .ok (.iconst 2, 1) := by decide +kernel
theorem d_Md_street_144 : decode M_Md_street.2.1 144 = .ok (.iload_n 1, 1) := by decide +kernel
theorem d_Md_street_145 : decode M_Md_street.2.1 145 = .ok (.imul, 1) := by decide +kernel
theorem d_Md_street_146 : decode M_Md_street.2.1 146 = .ok (.iaload, 1) := by decide +kernel
theorem d_Md_street_147 : decode M_Md_street.2.1 147 = .ok (.iastore, 1) := by decide +kernel
theorem d_Md_street_148 : decode M_Md_street.2.1 148 = .ok (.aload_n 0, 1) := by decide +kernel
theorem d_Md_street_149 : decode M_Md_street.2.1 149 = .ok (.getfield 16, 3) := by decide +kernel
theorem d_Md_street_152 : decode M_Md_street.2.1 152 = .ok (.iload_n 1, 1) := by decide +kernel
theorem d_Md_street_153 : decode M_Md_street.2.1 153 = .ok (.aload_n 0, 1) := by decide +kernel
theorem d_Md_street_154 : decode M_Md_street.2.1 154 = .ok (.getfield 22, 3) := by decide +kernel
theorem d_Md_street_157 : decode M_Md_street.2.1 157 = .ok (.iconst 2, 1) := by decide +kernel
theorem d_Md_street_158 : decode M_Md_street.2.1 158 = .ok (.iload_n 1, 1) := by decide +kernel
theorem d_Md_street_159 : decode M_Md_street.2.1 159 = .ok (.imul, 1) := by decide +kernel
theorem d_Md_street_160 : decode M_Md_street.2.1 160 = .ok (.iconst 1, 1) := by decide +kernel
theorem d_Md_street_161 : decode M_Md_street.2.1 161 = .ok (.iadd, 1) := by decide +kernel
theorem d_Md_street_162 : decode M_Md_street.2.1 162 = .ok (.iaload, 1) := by decide +kernel
theorem d_Md_street_163 : decode M_Md_street.2.1 163 = .ok (.iastore, 1) := by decide +kernel
theorem d_Md_street_164 : decode M_Md_street.2.1 164 = .ok (.iinc 1 1, 3) := by decide +kernel
theorem d_Md_street_167 : decode M_Md_street.2.1 167 = .ok (.goto (-44), 3) := by decide +kernel
theorem d_Md_street_170 : decode M_Md_street.2.1 170 = .ok (.aload_n 0, 1) := by decide +kernel
theorem d_Md_street_171 : decode M_Md_street.2.1 171 = .ok (.getfield 25, 3) := by decide +kernel
theorem d_Md_street_174 : decode M_Md_street.2.1 174 = .ok (.bipush 16, 2) := by decide +kernel
theorem d_Md_street_176 : decode M_Md_street.2.1 176 = .ok (.aload_n 0, 1) := by decide +kernel
theorem d_Md_street_177 : decode M_Md_street.2.1 177 = .ok (.getfield 107, 3) := by decide +kernel
theorem d_Md_street_180 : decode M_Md_street.2.1 180 = .ok (.iastore, 1) := by decide +kernel
theorem d_Md_street_181 : decode M_Md_street.2.1 181 = .ok (.aload_n 0, 1) := by decide +kernel
theorem d_Md_street_182 : decode M_Md_street.2.1 182 = .ok (.getfield 25, 3) := by decide +kernel
theorem d_Md_street_185 : decode M_Md_street.2.1 185 = .ok (.bipush 17, 2) := by decide +kernel
theorem d_Md_street_187 : decode M_Md_street.2.1 187 = .ok (.aload_n 0, 1) := by decide +kernel
theorem d_Md_street_188 : decode M_Md_street.2.1 188 = .ok (.getfield 110, 3) := by decide +kernel
theorem d_Md_street_191 : decode M_Md_street.2.1 191 = .ok (.iastore, 1) := by decide +kernel
theorem d_Md_street_192 : decode M_Md_street.2.1 192 = .ok (.aload_n 0, 1) := by decide +kernel
theorem d_Md_street_193 : decode M_Md_street.2.1 193 = .ok (.iconst 0, 1) := by decide +kernel
theorem d_Md_street_194 : decode M_Md_street.2.1 194 = .ok (.putfield 119, 3) := by decide +kernel
theorem d_Md_street_197 : decode M_Md_street.2.1 197 = .ok (.aload_n 0, 1) := by decide +kernel
theorem d_Md_street_198 : decode M_Md_street.2.1 198 = .ok (.getfield 37, 3) := by decide +kernel
theorem d_Md_street_201 : decode M_Md_street.2.1 201 = .ok (.iconst 0, 1) := by decide +kernel
theorem d_Md_street_202 : decode M_Md_street.2.1 202 = .ok (.iconst 0, 1) := by decide +kernel
theorem d_Md_street_203 : decode M_Md_street.2.1 203 = .ok (.bastore, 1) := by decide +kernel
theorem d_Md_street_204 : decode M_Md_street.2.1 204 = .ok (.aload_n 0, 1) := by decide +kernel
theorem d_Md_street_205 : decode M_Md_street.2.1 205 = .ok (.getfield 37, 3) := by decide +kernel
theorem d_Md_street_208 : decode M_Md_street.2.1 208 = .ok (.iconst 1, 1) := by decide +kernel
theorem d_Md_street_209 : decode M_Md_street.2.1 209 = .ok (.iconst 0, 1) := by decide +kernel
theorem d_Md_street_210 : decode M_Md_street.2.1 210 = .ok (.bastore, 1) := by decide +kernel
theorem d_Md_street_211 : decode M_Md_street.2.1 211 = .ok (.bipush 10, 2) := by decide +kernel
theorem d_Md_street_213 : decode M_Md_street.2.1 213 = .ok (.aload_n 0, 1) := by decide +kernel
theorem d_Md_street_214 : decode M_Md_street.2.1 214 = .ok (.getfield 66, 3) := by decide +kernel
theorem d_Md_street_217 : decode M_Md_street.2.1 217 = .ok (.imul, 1) := by decide +kernel
theorem d_Md_street_218 : decode M_Md_street.2.1 218 = .ok (.aload_n 0, 1) := by decide +kernel
theorem d_Md_street_219 : decode M_Md_street.2.1 219 = .ok (.getfield 73, 3) := by decide +kernel
theorem d_Md_street_222 : decode M_Md_street.2.1 222 = .ok (.iadd, 1) := by decide +kernel
theorem d_Md_street_223 : decode M_Md_street.2.1 223 = .ok (.ireturn, 1) := by decide +kernel
theorem d_Md_pullOf_0 : decode M_Md_pullOf.2.1 0 = .ok (.aload_n 1, 1) := by decide +kernel
theorem d_Md_pullOf_1 : decode M_Md_pullOf.2.1 1 = .ok (.iconst 0, 1) := by decide +kernel
theorem d_Md_pullOf_2 : decode M_Md_pullOf.2.1 2 = .ok (.iload_n 2, 1) := by decide +kernel
theorem d_Md_pullOf_3 : decode M_Md_pullOf.2.1 3 = .ok (.iadd, 1) := by decide +kernel
theorem d_Md_pullOf_4 : decode M_Md_pullOf.2.1 4 = .ok (.iaload, 1) := by decide +kernel
theorem d_Md_pullOf_5 : decode M_Md_pullOf.2.1 5 = .ok (.istore 4, 2) := by decide +kernel
theorem d_Md_pullOf_7 : decode M_Md_pullOf.2.1 7 = .ok (.iload 4, 2) := by decide +kernel
theorem d_Md_pullOf_9 : decode M_Md_pullOf.2.1 9 = .ok (.ifCond .ne 5, 3) := by decide +kernel
theorem d_Md_pullOf_12 : decode M_Md_pullOf.2.1 12 = .ok (.iconst 0, 1) := by decide +kernel
theorem d_Md_pullOf_13 : decode M_Md_pullOf.2.1 13 = .ok (.ireturn, 1) := by decide +kernel
theorem d_Md_pullOf_14 : decode M_Md_pullOf.2.1 14 = .ok (.aload_n 1, 1) := by decide +kernel
theorem d_Md_pullOf_15 : decode M_Md_pullOf.2.1 15 = .ok (.bipush 10, 2) := by decide +kernel
theorem d_Md_pullOf_17 : decode M_Md_pullOf.2.1 17 = .ok (.iload_n 3, 1) := by decide +kernel
theorem d_Md_pullOf_18 : decode M_Md_pullOf.2.1 18 = .ok (.iadd, 1) := by decide +kernel
theorem d_Md_pullOf_19 : decode M_Md_pullOf.2.1 19 = .ok (.iaload, 1) := by decide +kernel
theorem d_Md_pullOf_20 : decode M_Md_pullOf.2.1 20 = .ok (.aload_n 1, 1) := by decide +kernel
theorem d_Md_pullOf_21 : decode M_Md_pullOf.2.1 21 = .ok (.bipush 19, 2) := by decide +kernel
theorem d_Md_pullOf_23 : decode M_Md_pullOf.2.1 23 = .ok (.iload_n 2, 1) := by decide +kernel
theorem d_Md_pullOf_24 : decode M_Md_pullOf.2.1 24 = .ok (.iadd, 1) := by decide +kernel
theorem d_Md_pullOf_25 : decode M_Md_pullOf.2.1 25 = .ok (.iaload, 1) := by decide +kernel
theorem d_Md_pullOf_26 : decode M_Md_pullOf.2.1 26 = .ok (.isub, 1) := by decide +kernel
theorem d_Md_pullOf_27 : decode M_Md_pullOf.2.1 27 = .ok (.istore 5, 2) := by decide +kernel
theorem d_Md_pullOf_29 : decode M_Md_pullOf.2.1 29 = .ok (.aload_n 0, 1) := by decide +kernel
theorem d_Md_pullOf_30 : decode M_Md_pullOf.2.1 30 = .ok (.getfield 13, 3) := by decide +kernel
theorem d_Md_pullOf_33 : decode M_Md_pullOf.2.1 33 = .ok (.iload_n 2, 1) := by decide +kernel
theorem d_Md_pullOf_34 : decode M_Md_pullOf.2.1 34 = .ok (.iaload, 1) := by decide +kernel
theorem d_Md_pullOf_35 : decode M_Md_pullOf.2.1 35 = .ok (.iconst 1, 1) := by decide +kernel
theorem d_Md_pullOf_36 : decode M_Md_pullOf.2.1 36 = .ok (.if_icmp .ne 10, 3) := by decide +kernel
theorem d_Md_pullOf_39 : decode M_Md_pullOf.2.1 39 = .ok (.iload 4, 2) := by decide +kernel
theorem d_Md_pullOf_41 : decode M_Md_pullOf.2.1 41 = .ok (.iconst 2, 1) := by decide +kernel
theorem d_Md_pullOf_42 : decode M_Md_pullOf.2.1 42 = .ok (.idiv, 1) := by decide +kernel
theorem d_Md_pullOf_43 : decode M_Md_pullOf.2.1 43 = .ok (.goto 22, 3) := by decide +kernel
theorem d_Md_pullOf_46 : decode M_Md_pullOf.2.1 46 = .ok (.aload_n 0, 1) := by decide +kernel
theorem d_Md_pullOf_47 : decode M_Md_pullOf.2.1 47 = .ok (.getfield 13, 3) := by decide +kernel
theorem d_Md_pullOf_50 : decode M_Md_pullOf.2.1 50 = .ok (.iload_n 2, 1) := by decide +kernel
theorem d_Md_pullOf_51 : decode M_Md_pullOf.2.1 51 = .ok (.iaload, 1) := by decide +kernel
theorem d_Md_pullOf_52 : decode M_Md_pullOf.2.1 52 = .ok (.iconst 3, 1) := by decide +kernel
theorem d_Md_pullOf_53 : decode M_Md_pullOf.2.1 53 = .ok (.if_icmp .ne 10, 3) := by decide +kernel
theorem d_Md_pullOf_56 : decode M_Md_pullOf.2.1 56 = .ok (.iload 4, 2) := by decide +kernel
theorem d_Md_pullOf_58 : decode M_Md_pullOf.2.1 58 = .ok (.iconst 2, 1) := by decide +kernel
theorem d_Md_pullOf_59 : decode M_Md_pullOf.2.1 59 = .ok (.iadd, 1) := by decide +kernel
theorem d_Md_pullOf_60 : decode M_Md_pullOf.2.1 60 = .ok (.goto 5, 3) := by decide +kernel
theorem d_Md_pullOf_63 : decode M_Md_pullOf.2.1 63 = .ok (.iload 4, 2) := by decide +kernel
theorem d_Md_pullOf_65 : decode M_Md_pullOf.2.1 65 = .ok (.istore 6, 2) := by decide +kernel
theorem d_Md_pullOf_67 : decode M_Md_pullOf.2.1 67 = .ok (.iload 6, 2) := by decide +kernel
theorem d_Md_pullOf_69 : decode M_Md_pullOf.2.1 69 = .ok (.aload_n 1, 1) := by decide +kernel
theorem d_Md_pullOf_70 : decode M_Md_pullOf.2.1 70 = .ok (.bipush 16, 2) := by decide +kernel
theorem d_Md_pullOf_72 : decode M_Md_pullOf.2.1 72 = .ok (.iaload, 1) := by decide +kernel
theorem d_Md_pullOf_73 : decode M_Md_pullOf.2.1 73 = .ok (.ifCond .ne 8, 3) := by decide +kernel
theorem d_Md_pullOf_76 : decode M_Md_pullOf.2.1 76 = .ok (.iload 5, 2) := by decide +kernel
theorem d_Md_pullOf_78 : decode M_Md_pullOf.2.1 78 = .ok (.ifCond .gt 16, 3) := by decide +kernel
theorem d_Md_pullOf_81 : decode M_Md_pullOf.2.1 81 = .ok (.aload_n 1, 1) := by decide +kernel
theorem d_Md_pullOf_82 : decode M_Md_pullOf.2.1 82 = .ok (.bipush 16, 2) := by decide +kernel
theorem d_Md_pullOf_84 : decode M_Md_pullOf.2.1 84 = .ok (.iaload, 1) := by decide +kernel
theorem d_Md_pullOf_85 : decode M_Md_pullOf.2.1 85 = .ok (.iconst 2, 1) := by decide +kernel
theorem d_Md_pullOf_86 : decode M_Md_pullOf.2.1 86 = .ok (.if_icmp .ne 12, 3) := by decide +kernel
theorem d_Md_pullOf_89 : decode M_Md_pullOf.2.1 89 = .ok (.iload 5, 2) := by decide +kernel
theorem d_Md_pullOf_91 : decode M_Md_pullOf.2.1 91 = .ok (.ifCond .ge 7, 3) := by decide +kernel
theorem d_Md_pullOf_94 : decode M_Md_pullOf.2.1 94 = .ok (.iconst 1, 1) := by decide +kernel
theorem d_Md_pullOf_95 : decode M_Md_pullOf.2.1 95 = .ok (.goto 4, 3) := by decide +kernel
theorem d_Md_pullOf_98 : decode M_Md_pullOf.2.1 98 = .ok (.iconst 0, 1) := by decide +kernel
theorem d_Md_pullOf_99 : decode M_Md_pullOf.2.1 99 = .ok (.iadd, 1) := by decide +kernel
theorem d_Md_pullOf_100 : decode M_Md_pullOf.2.1 100 = .ok (.istore 6, 2) := by decide +kernel
theorem d_Md_pullOf_102 : decode M_Md_pullOf.2.1 102 = .ok (.iload 6, 2) := by decide +kernel
theorem d_Md_pullOf_104 : decode M_Md_pullOf.2.1 104 = .ok (.iload 5, 2) := by decide +kernel
theorem d_Md_pullOf_106 : decode M_Md_pullOf.2.1 106 = .ok (.ifCond .ge 9, 3) := by decide +kernel
theorem d_Md_pullOf_109 : decode M_Md_pullOf.2.1 109 = .ok (.iload 5, 2) := by decide +kernel
theorem d_Md_pullOf_111 : decode M_Md_pullOf.2.1 111 = .ok (.ineg, 1) := by decide +kernel
theorem d_Md_pullOf_112 : decode M_Md_pullOf.2.1 112 = .ok (.goto 5, 3) := by decide +kernel
theorem d_Md_pullOf_115 : decode M_Md_pullOf.2.1 115 = .ok (.iload 5, 2) := by decide +kernel
theorem d_Md_pullOf_117 : decode M_Md_pullOf.2.1 117 = .ok (.isub, 1) := by decide +kernel
theorem d_Md_pullOf_118 : decode M_Md_pullOf.2.1 118 = .ok (.istore 6, 2) := by decide +kernel
theorem d_Md_pullOf_120 : decode M_Md_pullOf.2.1 120 = .ok (.iload 6, 2) := by decide +kernel
theorem d_Md_pullOf_122 : decode M_Md_pullOf.2.1 122 = .ok (.aload_n 0, 1) := by decide +kernel
theorem d_Md_pullOf_123 : decode M_Md_pullOf.2.1 123 = .ok (.getfield 16, 3) := by decide +kernel
theorem d_Md_pullOf_126 : decode M_Md_pullOf.2.1 126 = .ok (.iload_n 3, 1) := by decide +kernel
theorem d_Md_pullOf_127 : decode M_Md_pullOf.2.1 127 = .ok (.iaload, 1) := by decide +kernel
theorem d_Md_pullOf_128 : decode M_Md_pullOf.2.1 128 = .ok (.iconst 3, 1) := by decide +kernel
theorem d_Md_pullOf_129 : decode M_Md_pullOf.2.1 129 = .ok (.if_icmp .ne 20, 3) := by decide +kernel
theorem d_Md_pullOf_132 : decode M_Md_pullOf.2.1 132 = .ok (.aload_n 1, 1) := by decide +kernel
theorem d_Md_pullOf_133 : decode M_Md_pullOf.2.1 133 = .ok (.bipush 17, 2) := by decide +kernel
theorem d_Md_pullOf_135 : decode M_Md_pullOf.2.1 135 = .ok (.iaload, 1) := by decide +kernel
theorem d_Md_pullOf_136 : decode M_Md_pullOf.2.1 136 = .ok (.aload_n 1, 1) := by decide +kernel
theorem d_Md_pullOf_137 : decode M_Md_pullOf.2.1 137 = .ok (.bipush 19, 2) := by decide +kernel
theorem d_Md_pullOf_139 : decode M_Md_pullOf.2.1 139 = .ok (.iload_n 2, 1) := by decide +kernel
theorem d_Md_pullOf_140 : decode M_Md_pullOf.2.1 140 = .ok (.iadd, 1) := by decide +kernel
theorem d_Md_pullOf_141 : decode M_Md_pullOf.2.1 141 = .ok (.iaload, 1) := by decide +kernel
theorem d_Md_pullOf_142 : decode M_Md_pullOf.2.1 142 = .ok (.if_icmp .ne 7, 3) := by decide +kernel
theorem d_Md_pullOf_145 : decode M_Md_pullOf.2.1 145 = .ok (.iconst 3, 1) := by decide +kernel
theorem d_Md_pullOf_146 : decode M_Md_pullOf.2.1 146 = .ok (.goto 4, 3) := by decide +kernel
theorem d_Md_pullOf_149 : decode M_Md_pullOf.2.1 149 = .ok (.iconst 0, 1) := by decide +kernel
theorem d_Md_pullOf_150 : decode M_Md_pullOf.2.1 150 = .ok (.iadd, 1) := by decide +kernel
theorem d_Md_pullOf_151 : decode M_Md_pullOf.2.1 151 = .ok (.istore 6, 2) := by decide +kernel
theorem d_Md_pullOf_153 : decode M_Md_pullOf.2.1 153 = .ok (.iload 6, 2) := by decide +kernel
theorem d_Md_pullOf_155 : decode M_Md_pullOf.2.1 155 = .ok (.ifCond .ge 7, 3) := by decide +kernel
theorem d_Md_pullOf_158 : decode M_Md_pullOf.2.1 158 = .ok (.iconst 0, 1) := by decide +kernel
theorem d_Md_pullOf_159 : decode M_Md_pullOf.2.1 159 = .ok (.goto 5, 3) := by decide +kernel
theorem d_Md_pullOf_162 : decode M_Md_pullOf.2.1 162 = .ok (.iload 6, 2) := by decide +kernel
theorem d_Md_pullOf_164 : decode M_Md_pullOf.2.1 164 = .ok (.ireturn, 1) := by decide +kernel
theorem d_Md_strongest_0 : decode M_Md_strongest.2.1 0 = .ok (.iconst 0, 1) := by decide +kernel
theorem d_Md_strongest_1 : decode M_Md_strongest.2.1 1 = .ok (.istore_n 3, 1) := by decide +kernel
theorem d_Md_strongest_2 : decode M_Md_strongest.2.1 2 = .ok (.iconst 0, 1) := by decide +kernel
theorem d_Md_strongest_3 : decode M_Md_strongest.2.1 3 = .ok (.istore 4, 2) := by decide +kernel
theorem d_Md_strongest_5 : decode M_Md_strongest.2.1 5 = .ok (.iload 4, 2) := by decide +kernel
theorem d_Md_strongest_7 : decode M_Md_strongest.2.1 7 = .ok (.aload_n 0, 1) := by decide +kernel
theorem d_Md_strongest_8 : decode M_Md_strongest.2.1 8 = .ok (.getfield 66, 3) := by decide +kernel
theorem d_Md_strongest_11 : decode M_Md_strongest.2.1 11 = .ok (.if_icmp .ge 32, 3) := by decide +kernel
theorem d_Md_strongest_14 : decode M_Md_strongest.2.1 14 = .ok (.aload_n 0, 1) := by decide +kernel
theorem d_Md_strongest_15 : decode M_Md_strongest.2.1 15 = .ok (.aload_n 1, 1) := by decide +kernel
theorem d_Md_strongest_16 : decode M_Md_strongest.2.1 16 = .ok (.iload 4, 2) := by decide +kernel
theorem d_Md_strongest_18 : decode M_Md_strongest.2.1 18 = .ok (.iload_n 2, 1) := by decide +kernel
theorem d_Md_strongest_19 : decode M_Md_strongest.2.1 19 = .ok (.invokevirtual 122, 3) := by decide +kernel
theorem d_Md_strongest_22 : decode M_Md_strongest.2.1 22 = .ok (.istore 5, 2) := by decide +kernel
theorem d_Md_strongest_24 : decode M_Md_strongest.2.1 24 = .ok (.iload 5, 2) := by decide +kernel
theorem d_Md_strongest_26 : decode M_Md_strongest.2.1 26 = .ok (.iload_n 3, 1) := by decide +kernel
theorem d_Md_strongest_27 : decode M_Md_strongest.2.1 27 = .ok (.if_icmp .le 8, 3) := by decide +kernel
theorem d_Md_strongest_30 : decode M_Md_strongest.2.1 30 = .ok (.iload 5, 2) := by decide +kernel
theorem d_Md_strongest_32 : decode M_Md_strongest.2.1 32 = .ok (.goto 4, 3) := by decide +kernel
theorem d_Md_strongest_35 : decode M_Md_strongest.2.1 35 = .ok (.iload_n 3, 1) := by decide +kernel
theorem d_Md_strongest_36 : decode M_Md_strongest.2.1 36 = .ok (.istore_n 3, 1) := by decide +kernel
theorem d_Md_strongest_37 : decode M_Md_strongest.2.1 37 = .ok (.iinc 4 1, 3) := by decide +kernel
theorem d_Md_strongest_40 : decode M_Md_strongest.2.1 40 = .ok (.goto (-35), 3) := by decide +kernel
theorem d_Md_strongest_43 : decode M_Md_strongest.2.1 43 = .ok (.iload_n 3, 1) := by decide +kernel
theorem d_Md_strongest_44 : decode M_Md_strongest.2.1 44 = .ok (.ireturn, 1) := by decide +kernel
theorem d_Md_layOwed_0 : decode M_Md_layOwed.2.1 0 = .ok (.iconst 0, 1) := by decide +kernel
theorem d_Md_layOwed_1 : decode M_Md_layOwed.2.1 1 = .ok (.istore_n 2, 1) := by decide +kernel
theorem d_Md_layOwed_2 : decode M_Md_layOwed.2.1 2 = .ok (.iload_n 2, 1) := by decide +kernel
theorem d_Md_layOwed_3 : decode M_Md_layOwed.2.1 3 = .ok (.aload_n 0, 1) := by decide +kernel
theorem d_Md_layOwed_4 : decode M_Md_layOwed.2.1 4 = .ok (.getfield 66, 3) := by decide +kernel
theorem d_Md_layOwed_7 : decode M_Md_layOwed.2.1 7 = .ok (.if_icmp .ge 16, 3) := by decide +kernel
theorem d_Md_layOwed_10 : decode M_Md_layOwed.2.1 10 = .ok (.aload_n 0, 1) := by decide +kernel
theorem d_Md_layOwed_11 : decode M_Md_layOwed.2.1 11 = .ok (.getfield 53, 3) := by decide +kernel
theorem d_Md_layOwed_14 : decode M_Md_layOwed.2.1 14 = .ok (.iload_n 2, 1) := by decide +kernel
theorem d_Md_layOwed_15 : decode M_Md_layOwed.2.1 15 = .ok (.iconst 0, 1) := by decide +kernel
theorem d_Md_layOwed_16 : decode M_Md_layOwed.2.1 16 = .ok (.iastore, 1) := by decide +kernel
theorem d_Md_layOwed_17 : decode M_Md_layOwed.2.1 17 = .ok (.iinc 2 1, 3) := by decide +kernel
theorem d_Md_layOwed_20 : decode M_Md_layOwed.2.1 20 = .ok (.goto (-18), 3) := by decide +kernel
theorem d_Md_layOwed_23 : decode M_Md_layOwed.2.1 23 = .ok (.iconst 0, 1) := by decide +kernel
theorem d_Md_layOwed_24 : decode M_Md_layOwed.2.1 24 = .ok (.istore_n 2, 1) := by decide +kernel
theorem d_Md_layOwed_25 : decode M_Md_layOwed.2.1 25 = .ok (.iload_n 2, 1) := by decide +kernel
theorem d_Md_layOwed_26 : decode M_Md_layOwed.2.1 26 = .ok (.aload_n 0, 1) := by decide +kernel
theorem d_Md_layOwed_27 : decode M_Md_layOwed.2.1 27 = .ok (.getfield 73, 3) := by decide +kernel
theorem d_Md_layOwed_30 : decode M_Md_layOwed.2.1 30 = .ok (.if_icmp .ge 165, 3) := by decide +kernel
theorem d_Md_layOwed_33 : decode M_Md_layOwed.2.1 33 = .ok (.aload_n 0, 1) := by decide +kernel
theorem d_Md_layOwed_34 : decode M_Md_layOwed.2.1 34 = .ok (.aload_n 1, 1) := by decide +kernel
theorem d_Md_layOwed_35 : decode M_Md_layOwed.2.1 35 = .ok (.iload_n 2, 1) := by decide +kernel
theorem d_Md_layOwed_36 : decode M_Md_layOwed.2.1 36 = .ok (.invokevirtual 126, 3) := by decide +kernel
theorem d_Md_layOwed_39 : decode M_Md_layOwed.2.1 39 = .ok (.istore_n 3, 1) := by decide +kernel
theorem d_Md_layOwed_40 : decode M_Md_layOwed.2.1 40 = .ok (.aload_n 0, 1) := by decide +kernel
theorem d_Md_layOwed_41 : decode M_Md_layOwed.2.1 41 = .ok (.getfield 50, 3) := by decide +kernel
theorem d_Md_layOwed_44 : decode M_Md_layOwed.2.1 44 = .ok (.iload_n 2, 1) := by decide +kernel
theorem d_Md_layOwed_45 : decode M_Md_layOwed.2.1 45 = .ok (.iconst 0, 1) := by decide +kernel
theorem d_Md_layOwed_46 : decode M_Md_layOwed.2.1 46 = .ok (.iastore, 1) := by decide +kernel
theorem d_Md_layOwed_47 : decode M_Md_layOwed.2.1 47 = .ok (.iconst 0, 1) := by decide +kernel
theorem d_Md_layOwed_48 : decode M_Md_layOwed.2.1 48 = .ok (.istore 4, 2) := by decide +kernel
theorem d_Md_layOwed_50 : decode M_Md_layOwed.2.1 50 = .ok (.iload 4, 2) := by decide +kernel
theorem d_Md_layOwed_52 : decode M_Md_layOwed.2.1 52 = .ok (.aload_n 0, 1) := by decide +kernel
theorem d_Md_layOwed_53 : decode M_Md_layOwed.2.1 53 = .ok (.getfield 66, 3) := by decide +kernel
theorem d_Md_layOwed_56 : decode M_Md_layOwed.2.1 56 = .ok (.if_icmp .ge 42, 3) := by decide +kernel
theorem d_Md_layOwed_59 : decode M_Md_layOwed.2.1 59 = .ok (.aload_n 0, 1) := by decide +kernel
theorem d_Md_layOwed_60 : decode M_Md_layOwed.2.1 60 = .ok (.getfield 50, 3) := by decide +kernel
theorem d_Md_layOwed_63 : decode M_Md_layOwed.2.1 63 = .ok (.iload_n 2, 1) := by decide +kernel
theorem d_Md_layOwed_64 : decode M_Md_layOwed.2.1 64 = .ok (.dup2, 1) := by decide +kernel
theorem d_Md_layOwed_65 : decode M_Md_layOwed.2.1 65 = .ok (.iaload, 1) := by decide +kernel
theorem d_Md_layOwed_66 : decode M_Md_layOwed.2.1 66 = .ok (.iload_n 3, 1) := by decide +kernel
theorem d_Md_layOwed_67 : decode M_Md_layOwed.2.1 67 = .ok (.ifCond .le 22, 3) := by decide +kernel
theorem d_Md_layOwed_70 : decode M_Md_layOwed.2.1 70 = .ok (.aload_n 0, 1) := by decide +kernel
theorem d_Md_layOwed_71 : decode M_Md_layOwed.2.1 71 = .ok (.aload_n 1, 1) := by decide +kernel
theorem d_Md_layOwed_72 : decode M_Md_layOwed.2.1 72 = .ok (.iload 4, 2) := by decide +kernel
theorem d_Md_layOwed_74 : decode M_Md_layOwed.2.1 74 = .ok (.iload_n 2, 1) := by decide +kernel
theorem d_Md_layOwed_75 : decode M_Md_layOwed.2.1 75 = .ok (.invokevirtual 122, 3) := by decide +kernel
theorem d_Md_layOwed_78 : decode M_Md_layOwed.2.1 78 = .ok (.iload_n 3, 1) := by decide +kernel
theorem d_Md_layOwed_79 : decode M_Md_layOwed.2.1 79 = .ok (.if_icmp .ne 10, 3) := by decide +kernel
theorem d_Md_layOwed_82 : decode M_Md_layOwed.2.1 82 = .ok (.iconst 1, 1) := by decide +kernel
theorem d_Md_layOwed_83 : decode M_Md_layOwed.2.1 83 = .ok (.iload 4, 2) := by decide +kernel
theorem d_Md_layOwed_85 : decode M_Md_layOwed.2.1 85 = .ok (.ishl, 1) := by decide +kernel
theorem d_Md_layOwed_86 : decode M_Md_layOwed.2.1 86 = .ok (.goto 4, 3) := by decide +kernel
theorem d_Md_layOwed_89 : decode M_Md_layOwed.2.1 89 = .ok (.iconst 0, 1) := by decide +kernel
theorem d_Md_layOwed_90 : decode M_Md_layOwed.2.1 90 = .ok (.ior, 1) := by decide +kernel
theorem d_Md_layOwed_91 : decode M_Md_layOwed.2.1 91 = .ok (.iastore, 1) := by decide +kernel
theorem d_Md_layOwed_92 : decode M_Md_layOwed.2.1 92 = .ok (.iinc 4 1, 3) := by decide +kernel
theorem d_Md_layOwed_95 : decode M_Md_layOwed.2.1 95 = .ok (.goto (-45), 3) := by decide +kernel
theorem d_Md_layOwed_98 : decode M_Md_layOwed.2.1 98 = .ok (.aload_n 0, 1) := by decide +kernel
theorem d_Md_layOwed_99 : decode M_Md_layOwed.2.1 99 = .ok (.getfield 16, 3) := by decide +kernel
theorem d_Md_layOwed_102 : decode M_Md_layOwed.2.1 102 = .ok (.iload_n 2, 1) := by decide +kernel
theorem d_Md_layOwed_103 : decode M_Md_layOwed.2.1 103 = .ok (.iaload, 1) := by decide +kernel
theorem d_Md_layOwed_104 : decode M_Md_layOwed.2.1 104 = .ok (.iconst 1, 1) := by decide +kernel
theorem d_Md_layOwed_105 : decode M_Md_layOwed.2.1 105 = .ok (.if_icmp .ne 8, 3) := by decide +kernel
theorem d_Md_layOwed_108 : decode M_Md_layOwed.2.1 108 = .ok (.bipush 18, 2) := by decide +kernel
theorem d_Md_layOwed_110 : decode M_Md_layOwed.2.1 110 = .ok (.goto 19, 3) := by decide +kernel
theorem d_Md_layOwed_113 : decode M_Md_layOwed.2.1 113 = .ok (.aload_n 0, 1) := by decide +kernel
theorem d_Md_layOwed_114 : decode M_Md_layOwed.2.1 114 = .ok (.getfield 16, 3) := by decide +kernel
theorem d_Md_layOwed_117 : decode M_Md_layOwed.2.1 117 = .ok (.iload_n 2, 1) := by decide +kernel
theorem d_Md_layOwed_118 : decode M_Md_layOwed.2.1 118 = .ok (.iaload, 1) := by decide +kernel
theorem d_Md_layOwed_119 : decode M_Md_layOwed.2.1 119 = .ok (.iconst 2, 1) := by decide +kernel
theorem d_Md_layOwed_120 : decode M_Md_layOwed.2.1 120 = .ok (.if_icmp .ne 7, 3) := by decide +kernel
theorem d_Md_layOwed_123 : decode M_Md_layOwed.2.1 123 = .ok (.iconst 0, 1) := by decide +kernel
theorem d_Md_layOwed_124 : decode M_Md_layOwed.2.1 124 = .ok (.goto 5, 3) := by decide +kernel
theorem d_Md_layOwed_127 : decode M_Md_layOwed.2.1 127 = .ok (.bipush 6, 2) := by decide +kernel
theorem d_Md_layOwed_129 : decode M_Md_layOwed.2.1 129 = .ok (.istore 4, 2) := by decide +kernel
theorem d_Md_layOwed_131 : decode M_Md_layOwed.2.1 131 = .ok (.iconst 0, 1) := by decide +kernel
theorem d_Md_layOwed_132 : decode M_Md_layOwed.2.1 132 = .ok (.istore 5, 2) := by decide +kernel
theorem d_Md_layOwed_134 : decode M_Md_layOwed.2.1 134 = .ok (.iload 5, 2) := by decide +kernel
theorem d_Md_layOwed_136 : decode M_Md_layOwed.2.1 136 = .ok (.aload_n 0, 1) := by decide +kernel
theorem d_Md_layOwed_137 : decode M_Md_layOwed.2.1 137 = .ok (.getfield 66, 3) := by decide +kernel
theorem d_Md_layOwed_140 : decode M_Md_layOwed.2.1 140 = .ok (.if_icmp .ge 49, 3) := by decide +kernel
theorem d_Md_layOwed_143 : decode M_Md_layOwed.2.1 143 = .ok (.aload_n 0, 1) := by decide +kernel
theorem d_Md_layOwed_144 : decode M_Md_layOwed.2.1 144 = .ok (.getfield 53, 3) := by decide +kernel
theorem d_Md_layOwed_147 : decode M_Md_layOwed.2.1 147 = .ok (.iload 5, 2) := by decide +kernel
theorem d_Md_layOwed_149 : decode M_Md_layOwed.2.1 149 = .ok (.dup2, 1) := by decide +kernel
theorem d_Md_layOwed_150 : decode M_Md_layOwed.2.1 150 = .ok (.iaload, 1) := by decide +kernel
theorem d_Md_layOwed_151 : decode M_Md_layOwed.2.1 151 = .ok (.aload_n 0, 1) := by decide +kernel
theorem d_Md_layOwed_152 : decode M_Md_layOwed.2.1 152 = .ok (.getfield 50, 3) := by decide +kernel
theorem d_Md_layOwed_155 : decode M_Md_layOwed.2.1 155 = .ok (.iload_n 2, 1) := by decide +kernel
theorem d_Md_layOwed_156 : decode M_Md_layOwed.2.1 156 = .ok (.iaload, 1) := by decide +kernel
theorem d_Md_layOwed_157 : decode M_Md_layOwed.2.1 157 = .ok (.iload 5, 2) := by decide +kernel
theorem d_Md_layOwed_159 : decode M_Md_layOwed.2.1 159 = .ok (.invokestatic 130, 3) := by decide +kernel
theorem d_Md_layOwed_162 : decode M_Md_layOwed.2.1 162 = .ok (.ifCond .eq 18, 3) := by decide +kernel
theorem d_Md_layOwed_165 : decode M_Md_layOwed.2.1 165 = .ok (.iload 4, 2) := by decide +kernel
theorem d_Md_layOwed_167 : decode M_Md_layOwed.2.1 167 = .ok (.aload_n 0, 1) := by decide +kernel
theorem d_Md_layOwed_168 : decode M_Md_layOwed.2.1 168 = .ok (.getfield 50, 3) := by decide +kernel
theorem d_Md_layOwed_171 : decode M_Md_layOwed.2.1 171 = .ok (.iload_n 2, 1) := by decide +kernel
theorem d_Md_layOwed_172 : decode M_Md_layOwed.2.1 172 = .ok (.iaload, 1) := by decide +kernel
theorem d_Md_layOwed_173 : decode M_Md_layOwed.2.1 173 = .ok (.invokestatic 134, 3) := by decide +kernel
theorem d_Md_layOwed_176 : decode M_Md_layOwed.2.1 176 = .ok (.idiv, 1) := by decide +kernel
theorem d_Md_layOwed_177 : decode M_Md_layOwed.2.1 177 = .ok (.goto 4, 3) := by decide +kernel
theorem d_Md_layOwed_180 : decode M_Md_layOwed.2.1 180 = .ok (.iconst 0, 1) := by decide +kernel
theorem d_Md_layOwed_181 : decode M_Md_layOwed.2.1 181 = .ok (.iadd, 1) := by decide +kernel
theorem d_Md_layOwed_182 : decode M_Md_layOwed.2.1 182 = .ok (.iastore, 1) := by decide +kernel
theorem d_Md_layOwed_183 : decode M_Md_layOwed.2.1 183 = .ok (.iinc 5 1, 3) := by decide +kernel
theorem d_Md_layOwed_186 : decode M_Md_layOwed.2.1 186 = .ok (.goto (-52), 3) := by decide +kernel
theorem d_Md_layOwed_189 : decode M_Md_layOwed.2.1 189 = .ok (.iinc 2 1, 3) := by decide +kernel
theorem d_Md_layOwed_192 : decode M_Md_layOwed.2.1 192 = .ok (.goto (-167), 3) := by decide +kernel
theorem d_Md_layOwed_195 : decode M_Md_layOwed.2.1 195 = .ok (.iconst 0, 1) := by decide +kernel
theorem d_Md_layOwed_196 : decode M_Md_layOwed.2.1 196 = .ok (.istore_n 2, 1) := by decide +kernel
theorem d_Md_layOwed_197 : decode M_Md_layOwed.2.1 197 = .ok (.iconst 0, 1) := by decide +kernel
theorem d_Md_layOwed_198 : decode M_Md_layOwed.2.1 198 = .ok (.istore_n 3, 1) := by decide +kernel
theorem d_Md_layOwed_199 : decode M_Md_layOwed.2.1 199 = .ok (.iload_n 3, 1) := by decide +kernel
theorem d_Md_layOwed_200 : decode M_Md_layOwed.2.1 200 = .ok (.aload_n 0, 1) := by decide +kernel
theorem d_Md_layOwed_201 : decode M_Md_layOwed.2.1 201 = .ok (.getfield 66, 3) := by decide +kernel
theorem d_Md_layOwed_204 : decode M_Md_layOwed.2.1 204 = .ok (.if_icmp .ge 51, 3) := by decide +kernel
theorem d_Md_layOwed_207 : decode M_Md_layOwed.2.1 207 = .ok (.aload_n 0, 1) := by decide +kernel
theorem d_Md_layOwed_208 : decode M_Md_layOwed.2.1 208 = .ok (.getfield 53, 3) := by decide +kernel
theorem d_Md_layOwed_211 : decode M_Md_layOwed.2.1 211 = .ok (.iload_n 3, 1) := by decide +kernel
theorem d_Md_layOwed_212 : decode M_Md_layOwed.2.1 212 = .ok (.aload_n 0, 1) := by decide +kernel
theorem d_Md_layOwed_213 : decode M_Md_layOwed.2.1 213 = .ok (.getfield 13, 3) := by decide +kernel
theorem d_Md_layOwed_216 : decode M_Md_layOwed.2.1 216 = .ok (.iload_n 3, 1) := by decide +kernel
theorem d_Md_layOwed_217 : decode M_Md_layOwed.2.1 217 = .ok (.iaload, 1) := by decide +kernel
theorem d_Md_layOwed_218 : decode M_Md_layOwed.2.1 218 = .ok (.iconst 2, 1) := by decide +kernel
theorem d_Md_layOwed_219 : decode M_Md_layOwed.2.1 219 = .ok (.if_icmp .ne 14, 3) := by decide +kernel
theorem d_Md_layOwed_222 : decode M_Md_layOwed.2.1 222 = .ok (.aload_n 0, 1) := by decide +kernel
theorem d_Md_layOwed_223 : decode M_Md_layOwed.2.1 223 = .ok (.getfield 53, 3) := by decide +kernel
theorem d_Md_layOwed_226 : decode M_Md_layOwed.2.1 226 = .ok (.iload_n 3, 1) := by decide +kernel
theorem d_Md_layOwed_227 : decode M_Md_layOwed.2.1 227 = .ok (.iaload, 1) := by decide +kernel
theorem d_Md_layOwed_228 : decode M_Md_layOwed.2.1 228 = .ok (.iconst 2, 1) := by decide +kernel
theorem d_Md_layOwed_229 : decode M_Md_layOwed.2.1 229 = .ok (.idiv, 1) := by decide +kernel
theorem d_Md_layOwed_230 : decode M_Md_layOwed.2.1 230 = .ok (.goto 9, 3) := by decide +kernel
theorem d_Md_layOwed_233 : decode M_Md_layOwed.2.1 233 = .ok (.aload_n 0, 1) := by decide +kernel
theorem d_Md_layOwed_234 : decode M_Md_layOwed.2.1 234 = .ok (.getfield 53, 3) := by decide +kernel
theorem d_Md_layOwed_237 : decode M_Md_layOwed.2.1 237 = .ok (.iload_n 3, 1) := by decide +kernel
theorem d_Md_layOwed_238 : decode M_Md_layOwed.2.1 238 = .ok (.iaload, 1) := by decide +kernel
theorem d_Md_layOwed_239 : decode M_Md_layOwed.2.1 239 = .ok (.iastore, 1) := by decide +kernel
theorem d_Md_layOwed_240 : decode M_Md_layOwed.2.1 240 = .ok (.iload_n 2, 1) := by decide +kernel
theorem d_Md_layOwed_241 : decode M_Md_layOwed.2.1 241 = .ok (.aload_n 0, 1) := by decide +kernel
theorem d_Md_layOwed_242 : decode M_Md_layOwed.2.1 242 = .ok (.getfield 53, 3) := by decide +kernel
theorem d_Md_layOwed_245 : decode M_Md_layOwed.2.1 245 = .ok (.iload_n 3, 1) := by decide +kernel
theorem d_Md_layOwed_246 : decode M_Md_layOwed.2.1 246 = .ok (.iaload, 1) := by decide +kernel
theorem d_Md_layOwed_247 : decode M_Md_layOwed.2.1 247 = .ok (.iadd, 1) := by decide +kernel
theorem d_Md_layOwed_248 : decode M_Md_layOwed.2.1 248 = .ok (.istore_n 2, 1) := by decide +kernel
theorem d_Md_layOwed_249 : decode M_Md_layOwed.2.1 249 = .ok (.iinc 3 1, 3) := by decide +kernel
theorem d_Md_layOwed_252 : decode M_Md_layOwed.2.1 252 = .ok (.goto (-53), 3) := by decide +kernel
theorem d_Md_layOwed_255 : decode M_Md_layOwed.2.1 255 = .ok (.iload_n 2, 1) := by decide +kernel
theorem d_Md_layOwed_256 : decode M_Md_layOwed.2.1 256 = .ok (.ireturn, 1) := by decide +kernel
theorem d_Md_reads_0 : decode M_Md_reads.2.1 0 = .ok (.aload_n 1, 1) := by decide +kernel
theorem d_Md_reads_1 : decode M_Md_reads.2.1 1 = .ok (.iconst 0, 1) := by decide +kernel
theorem d_Md_reads_2 : decode M_Md_reads.2.1 2 = .ok (.iload_n 2, 1) := by decide +kernel
theorem d_Md_reads_3 : decode M_Md_reads.2.1 3 = .ok (.iadd, 1) := by decide +kernel
theorem d_Md_reads_4 : decode M_Md_reads.2.1 4 = .ok (.iaload, 1) := by decide +kernel
theorem d_Md_reads_5 : decode M_Md_reads.2.1 5 = .ok (.iconst 3, 1) := by decide +kernel
theorem d_Md_reads_6 : decode M_Md_reads.2.1 6 = .ok (.if_icmp .lt 7, 3) := by decide +kernel
theorem d_Md_reads_9 : decode M_Md_reads.2.1 9 = .ok (.iconst 1, 1) := by decide +kernel
theorem d_Md_reads_10 : decode M_Md_reads.2.1 10 = .ok (.goto 4, 3) := by decide +kernel
theorem d_Md_reads_13 : decode M_Md_reads.2.1 13 = .ok (.iconst 0, 1) := by decide +kernel
theorem d_Md_reads_14 : decode M_Md_reads.2.1 14 = .ok (.istore_n 3, 1) := by decide +kernel
theorem d_Md_reads_15 : decode M_Md_reads.2.1 15 = .ok (.iconst 0, 1) := by decide +kernel
theorem d_Md_reads_16 : decode M_Md_reads.2.1 16 = .ok (.istore 4, 2) := by decide +kernel
theorem d_Md_reads_18 : decode M_Md_reads.2.1 18 = .ok (.iload 4, 2) := by decide +kernel
theorem d_Md_reads_20 : decode M_Md_reads.2.1 20 = .ok (.aload_n 0, 1) := by decide +kernel
theorem d_Md_reads_21 : decode M_Md_reads.2.1 21 = .ok (.getfield 66, 3) := by decide +kernel
theorem d_Md_reads_24 : decode M_Md_reads.2.1 24 = .ok (.if_icmp .ge 59, 3) := by decide +kernel
theorem d_Md_reads_27 : decode M_Md_reads.2.1 27 = .ok (.aload_n 1, 1) := by decide +kernel
theorem d_Md_reads_28 : decode M_Md_reads.2.1 28 = .ok (.bipush 19, 2) := by decide +kernel
theorem d_Md_reads_30 : decode M_Md_reads.2.1 30 = .ok (.iload 4, 2) := by decide +kernel
theorem d_Md_reads_32 : decode M_Md_reads.2.1 32 = .ok (.iadd, 1) := by decide +kernel
theorem d_Md_reads_33 : decode M_Md_reads.2.1 33 = .ok (.iaload, 1) := by decide +kernel
theorem d_Md_reads_34 : decode M_Md_reads.2.1 34 = .ok (.aload_n 1, 1) := by decide +kernel
theorem d_Md_reads_35 : decode M_Md_reads.2.1 35 = .ok (.bipush 19, 2) := by decide +kernel
theorem d_Md_reads_37 : decode M_Md_reads.2.1 37 = .ok (.iload_n 2, 1) := by decide +kernel
theorem d_Md_reads_38 : decode M_Md_reads.2.1 38 = .ok (.iadd, 1) := by decide +kernel
theorem d_Md_reads_39 : decode M_Md_reads.2.1 39 = .ok (.iaload, 1) := by decide +kernel
theorem d_Md_reads_40 : decode M_Md_reads.2.1 40 = .ok (.isub, 1) := by decide +kernel
theorem d_Md_reads_41 : decode M_Md_reads.2.1 41 = .ok (.istore 5, 2) := by decide +kernel
theorem d_Md_reads_43 : decode M_Md_reads.2.1 43 = .ok (.iload_n 3, 1) := by decide +kernel
theorem d_Md_reads_44 : decode M_Md_reads.2.1 44 = .ok (.ifCond .ne 27, 3) := by decide +kernel
theorem d_Md_reads_47 : decode M_Md_reads.2.1 47 = .ok (.iload 5, 2) := by decide +kernel
theorem d_Md_reads_49 : decode M_Md_reads.2.1 49 = .ok (.i2l, 1) := by decide +kernel
theorem d_Md_reads_50 : decode M_Md_reads.2.1 50 = .ok (.ldc2_w 138, 3) := by decide +kernel
theorem d_Md_reads_53 : decode M_Md_reads.2.1 53 = .ok (.lconst 1, 1) := by decide +kernel
theorem d_Md_reads_54 : decode M_Md_reads.2.1 54 = .ok (.invokestatic 69, 3) := by decide +kernel
theorem d_Md_reads_57 : decode M_Md_reads.2.1 57 = .ok (.ifCond .eq 18, 3) := by decide +kernel
theorem d_Md_reads_60 : decode M_Md_reads.2.1 60 = .ok (.aload_n 1, 1) := by decide +kernel
theorem d_Md_reads_61 : decode M_Md_reads.2.1 61 = .ok (.iconst 0, 1) := by decide +kernel
theorem d_Md_reads_62 : decode M_Md_reads.2.1 62 = .ok (.iload 4, 2) := by decide +kernel
theorem d_Md_reads_64 : decode M_Md_reads.2.1 64 = .ok (.iadd, 1) := by decide +kernel
theorem d_Md_reads_65 : decode M_Md_reads.2.1 65 = .ok (.iaload, 1) := by decide +kernel
theorem d_Md_reads_66 : decode M_Md_reads.2.1 66 = .ok (.bipush 6, 2) := by decide +kernel
theorem d_Md_reads_68 : decode M_Md_reads.2.1 68 = .ok (.if_icmp .lt 7, 3) := by decide +kernel
theorem d_Md_reads_71 : decode M_Md_reads.2.1 71 = .ok (.iconst 1, 1) := by decide +kernel
theorem d_Md_reads_72 : decode M_Md_reads.2.1 72 = .ok (.goto 4, 3) := by decide +kernel
theorem d_Md_reads_75 : decode M_Md_reads.2.1 75 = .ok (.iconst 0, 1) := by decide +kernel
theorem d_Md_reads_76 : decode M_Md_reads.2.1 76 = .ok (.istore_n 3, 1) := by decide +kernel
theorem d_Md_reads_77 : decode M_Md_reads.2.1 77 = .ok (.iinc 4 1, 3) := by decide +kernel
theorem d_Md_reads_80 : decode M_Md_reads.2.1 80 = .ok (.goto (-62), 3) := by decide +kernel
theorem d_Md_reads_83 : decode M_Md_reads.2.1 83 = .ok (.iload_n 3, 1) := by decide +kernel
theorem d_Md_reads_84 : decode M_Md_reads.2.1 84 = .ok (.ireturn, 1) := by decide +kernel
theorem d_Md_readers_0 : decode M_Md_readers.2.1 0 = .ok (.iconst 0, 1) := by decide +kernel
theorem d_Md_readers_1 : decode M_Md_readers.2.1 1 = .ok (.istore_n 2, 1) := by decide +kernel
theorem d_Md_readers_2 : decode M_Md_readers.2.1 2 = .ok (.iconst 0, 1) := by decide +kernel
theorem d_Md_readers_3 : decode M_Md_readers.2.1 3 = .ok (.istore_n 3, 1) := by decide +kernel
theorem d_Md_readers_4 : decode M_Md_readers.2.1 4 = .ok (.iload_n 3, 1) := by decide +kernel
theorem d_Md_readers_5 : decode M_Md_readers.2.1 5 = .ok (.aload_n 0, 1) := by decide +kernel
theorem d_Md_readers_6 : decode M_Md_readers.2.1 6 = .ok (.getfield 66, 3) := by decide +kernel
theorem d_Md_readers_9 : decode M_Md_readers.2.1 9 = .ok (.if_icmp .ge 28, 3) := by decide +kernel
theorem d_Md_readers_12 : decode M_Md_readers.2.1 12 = .ok (.iload_n 2, 1) := by decide +kernel
theorem d_Md_readers_13 : decode M_Md_readers.2.1 13 = .ok (.aload_n 0, 1) := by decide +kernel
theorem d_Md_readers_14 : decode M_Md_readers.2.1 14 = .ok (.aload_n 1, 1) := by decide +kernel
theorem d_Md_readers_15 : decode M_Md_readers.2.1 15 = .ok (.iload_n 3, 1) := by decide +kernel
theorem d_Md_readers_16 : decode M_Md_readers.2.1 16 = .ok (.invokevirtual 140, 3) := by decide +kernel
theorem d_Md_readers_19 : decode M_Md_readers.2.1 19 = .ok (.ifCond .eq 9, 3) := by decide +kernel
theorem d_Md_readers_22 : decode M_Md_readers.2.1 22 = .ok (.iconst 1, 1) := by decide +kernel
theorem d_Md_readers_23 : decode M_Md_readers.2.1 23 = .ok (.iload_n 3, 1) := by decide +kernel
theorem d_Md_readers_24 : decode M_Md_readers.2.1 24 = .ok (.ishl, 1) := by decide +kernel
theorem d_Md_readers_25 : decode M_Md_readers.2.1 25 = .ok (.goto 4, 3) := by decide +kernel
theorem d_Md_readers_28 : decode M_Md_readers.2.1 28 = .ok (.iconst 0, 1) := by decide +kernel
theorem d_Md_readers_29 : decode M_Md_readers.2.1 29 = .ok (.ior, 1) := by decide +kernel
theorem d_Md_readers_30 : decode M_Md_readers.2.1 30 = .ok (.istore_n 2, 1) := by decide +kernel
theorem d_Md_readers_31 : decode M_Md_readers.2.1 31 = .ok (.iinc 3 1, 3) := by decide +kernel
theorem d_Md_readers_34 : decode M_Md_readers.2.1 34 = .ok (.goto (-30), 3) := by decide +kernel
theorem d_Md_readers_37 : decode M_Md_readers.2.1 37 = .ok (.iload_n 2, 1) := by decide +kernel
theorem d_Md_readers_38 : decode M_Md_readers.2.1 38 = .ok (.ireturn, 1) := by decide +kernel
theorem d_Md_paid_0 : decode M_Md_paid.2.1 0 = .ok (.iconst 0, 1) := by decide +kernel
theorem d_Md_paid_1 : decode M_Md_paid.2.1 1 = .ok (.istore_n 2, 1) := by decide +kernel
theorem d_Md_paid_2 : decode M_Md_paid.2.1 2 = .ok (.iconst 0, 1) := by decide +kernel
theorem d_Md_paid_3 : decode M_Md_paid.2.1 3 = .ok (.istore_n 3, 1) := by decide +kernel
theorem d_Md_paid_4 : decode M_Md_paid.2.1 4 = .ok (.iload_n 3, 1) := by decide +kernel
theorem d_Md_paid_5 : decode M_Md_paid.2.1 5 = .ok (.iconst 5, 1) := by decide +kernel
theorem d_Md_paid_6 : decode M_Md_paid.2.1 6 = .ok (.if_icmp .ge 17, 3) := by decide +kernel
theorem d_Md_paid_9 : decode M_Md_paid.2.1 9 = .ok (.iload_n 2, 1) := by decide +kernel
theorem d_Md_paid_10 : decode M_Md_paid.2.1 10 = .ok (.aload_n 1, 1) := by decide +kernel
theorem d_Md_paid_11 : decode M_Md_paid.2.1 11 = .ok (.iconst 5, 1) := by decide +kernel
theorem d_Md_paid_12 : decode M_Md_paid.2.1 12 = .ok (.iload_n 3, 1) := by decide +kernel
theorem d_Md_paid_13 : decode M_Md_paid.2.1 13 = .ok (.iadd, 1) := by decide +kernel
theorem d_Md_paid_14 : decode M_Md_paid.2.1 14 = .ok (.iaload, 1) := by decide +kernel
theorem d_Md_paid_15 : decode M_Md_paid.2.1 15 = .ok (.iadd, 1) := by decide +kernel
theorem d_Md_paid_16 : decode M_Md_paid.2.1 16 = .ok (.istore_n 2, 1) := by decide +kernel
theorem d_Md_paid_17 : decode M_Md_paid.2.1 17 = .ok (.iinc 3 1, 3) := by decide +kernel
theorem d_Md_paid_20 : decode M_Md_paid.2.1 20 = .ok (.goto (-16), 3) := by decide +kernel
theorem d_Md_paid_23 : decode M_Md_paid.2.1 23 = .ok (.iload_n 2, 1) := by decide +kernel
theorem d_Md_paid_24 : decode M_Md_paid.2.1 24 = .ok (.ireturn, 1) := by decide +kernel
theorem d_Md_about_0 : decode M_Md_about.2.1 0 = .ok (.aload_n 0, 1) := by decide +kernel
theorem d_Md_about_1 : decode M_Md_about.2.1 1 = .ok (.iconst 0, 1) := by decide +kernel
theorem d_Md_about_2 : decode M_Md_about.2.1 2 = .ok (.putfield 62, 3) := by decide +kernel
theorem d_Md_about_5 : decode M_Md_about.2.1 5 = .ok (.iload_n 1, 1) := by decide +kernel
theorem d_Md_about_6 : decode M_Md_about.2.1 6 = .ok (.tableswitch 134 0 10 #[58, 63, 68, 76, 84, 92, 101, 110, 119, 124, 129], 58) := by decide +kernel
theorem d_Md_about_64 : decode M_Md_about.2.1 64 = .ok (.aload_n 0, 1) := by decide +kernel
theorem d_Md_about_65 : decode M_Md_about.2.1 65 = .ok (.getfield 66, 3) := by decide +kernel
theorem d_Md_about_68 : decode M_Md_about.2.1 68 = .ok (.ireturn, 1) := by decide +kernel
theorem d_Md_about_69 : decode M_Md_about.2.1 69 = .ok (.aload_n 0, 1) := by decide +kernel
theorem d_Md_about_70 : decode M_Md_about.2.1 70 = .ok (.getfield 73, 3) := by decide +kernel
theorem d_Md_about_73 : decode M_Md_about.2.1 73 = .ok (.ireturn, 1) := by decide +kernel
theorem d_Md_about_74 : decode M_Md_about.2.1 74 = .ok (.aload_n 0, 1) := by decide +kernel
theorem d_Md_about_75 : decode M_Md_about.2.1 75 = .ok (.getfield 25, 3) := by decide +kernel
theorem d_Md_about_78 : decode M_Md_about.2.1 78 = .ok (.bipush 16, 2) := by decide +kernel
theorem d_Md_about_80 : decode M_Md_about.2.1 80 = .ok (.iaload, 1) := by decide +kernel
theorem d_Md_about_81 : decode M_Md_about.2.1 81 = .ok (.ireturn, 1) := by decide +kernel
theorem d_Md_about_82 : decode M_Md_about.2.1 82 = .ok (.aload_n 0, 1) := by decide +kernel
theorem d_Md_about_83 : decode M_Md_about.2.1 83 = .ok (.getfield 25, 3) := by decide +kernel
theorem d_Md_about_86 : decode M_Md_about.2.1 86 = .ok (.bipush 17, 2) := by decide +kernel
theorem d_Md_about_88 : decode M_Md_about.2.1 88 = .ok (.iaload, 1) := by decide +kernel
theorem d_Md_about_89 : decode M_Md_about.2.1 89 = .ok (.ireturn, 1) := by decide +kernel
theorem d_Md_about_90 : decode M_Md_about.2.1 90 = .ok (.aload_n 0, 1) := by decide +kernel
theorem d_Md_about_91 : decode M_Md_about.2.1 91 = .ok (.getfield 25, 3) := by decide +kernel
theorem d_Md_about_94 : decode M_Md_about.2.1 94 = .ok (.bipush 18, 2) := by decide +kernel
theorem d_Md_about_96 : decode M_Md_about.2.1 96 = .ok (.iaload, 1) := by decide +kernel
theorem d_Md_about_97 : decode M_Md_about.2.1 97 = .ok (.ireturn, 1) := by decide +kernel
theorem d_Md_about_98 : decode M_Md_about.2.1 98 = .ok (.aload_n 0, 1) := by decide +kernel
theorem d_Md_about_99 : decode M_Md_about.2.1 99 = .ok (.aload_n 0, 1) := by decide +kernel
theorem d_Md_about_100 : decode M_Md_about.2.1 100 = .ok (.getfield 25, 3) := by decide +kernel
theorem d_Md_about_103 : decode M_Md_about.2.1 103 = .ok (.invokevirtual 144, 3) := by decide +kernel
theorem d_Md_about_106 : decode M_Md_about.2.1 106 = .ok (.ireturn, 1) := by decide +kernel
theorem d_Md_about_107 : decode M_Md_about.2.1 107 = .ok (.aload_n 0, 1) := by decide +kernel
theorem d_Md_about_108 : decode M_Md_about.2.1 108 = .ok (.aload_n 0, 1) := by decide +kernel
theorem d_Md_about_109 : decode M_Md_about.2.1 109 = .ok (.getfield 25, 3) := by decide +kernel
theorem d_Md_about_112 : decode M_Md_about.2.1 112 = .ok (.invokevirtual 148, 3) := by decide +kernel
theorem d_Md_about_115 : decode M_Md_about.2.1 115 = .ok (.ireturn, 1) := by decide +kernel
theorem d_Md_about_116 : decode M_Md_about.2.1 116 = .ok (.aload_n 0, 1) := by decide +kernel
theorem d_Md_about_117 : decode M_Md_about.2.1 117 = .ok (.aload_n 0, 1) := by decide +kernel
theorem d_Md_about_118 : decode M_Md_about.2.1 118 = .ok (.getfield 25, 3) := by decide +kernel
theorem d_Md_about_121 : decode M_Md_about.2.1 121 = .ok (.invokevirtual 151, 3) := by decide +kernel
theorem d_Md_about_124 : decode M_Md_about.2.1 124 = .ok (.ireturn, 1) := by decide +kernel
theorem d_Md_about_125 : decode M_Md_about.2.1 125 = .ok (.aload_n 0, 1) := by decide +kernel
theorem d_Md_about_126 : decode M_Md_about.2.1 126 = .ok (.getfield 119, 3) := by decide +kernel
theorem d_Md_about_129 : decode M_Md_about.2.1 129 = .ok (.ireturn, 1) := by decide +kernel
theorem d_Md_about_130 : decode M_Md_about.2.1 130 = .ok (.aload_n 0, 1) := by decide +kernel
theorem d_Md_about_131 : decode M_Md_about.2.1 131 = .ok (.getfield 154, 3) := by decide +kernel
theorem d_Md_about_134 : decode M_Md_about.2.1 134 = .ok (.ireturn, 1) := by decide +kernel
theorem d_Md_about_135 : decode M_Md_about.2.1 135 = .ok (.aload_n 0, 1) := by decide +kernel
theorem d_Md_about_136 : decode M_Md_about.2.1 136 = .ok (.getfield 78, 3) := by decide +kernel
theorem d_Md_about_139 : decode M_Md_about.2.1 139 = .ok (.ireturn, 1) := by decide +kernel
theorem d_Md_about_140 : decode M_Md_about.2.1 140 = .ok (.bipush (-2), 2) := by decide +kernel
theorem d_Md_about_142 : decode M_Md_about.2.1 142 = .ok (.ireturn, 1) := by decide +kernel
theorem d_Md_window_0 : decode M_Md_window.2.1 0 = .ok (.aload_n 0, 1) := by decide +kernel
theorem d_Md_window_1 : decode M_Md_window.2.1 1 = .ok (.iconst 0, 1) := by decide +kernel
theorem d_Md_window_2 : decode M_Md_window.2.1 2 = .ok (.putfield 62, 3) := by decide +kernel
theorem d_Md_window_5 : decode M_Md_window.2.1 5 = .ok (.aload_n 0, 1) := by decide +kernel
theorem d_Md_window_6 : decode M_Md_window.2.1 6 = .ok (.iload_n 1, 1) := by decide +kernel
theorem d_Md_window_7 : decode M_Md_window.2.1 7 = .ok (.invokevirtual 157, 3) := by decide +kernel
theorem d_Md_window_10 : decode M_Md_window.2.1 10 = .ok (.ifCond .eq 5, 3) := by decide +kernel
theorem d_Md_window_13 : decode M_Md_window.2.1 13 = .ok (.iconst (-1), 1) := by decide +kernel
theorem d_Md_window_14 : decode M_Md_window.2.1 14 = .ok (.ireturn, 1) := by decide +kernel
theorem d_Md_window_15 : decode M_Md_window.2.1 15 = .ok (.aload_n 0, 1) := by decide +kernel
theorem d_Md_window_16 : decode M_Md_window.2.1 16 = .ok (.aload_n 0, 1) := by decide +kernel
theorem d_Md_window_17 : decode M_Md_window.2.1 17 = .ok (.getfield 25, 3) := by decide +kernel
theorem d_Md_window_20 : decode M_Md_window.2.1 20 = .ok (.invokevirtual 148, 3) := by decide +kernel
theorem d_Md_window_23 : decode M_Md_window.2.1 23 = .ok (.pop, 1) := by decide +kernel
theorem d_Md_window_24 : decode M_Md_window.2.1 24 = .ok (.iconst 0, 1) := by decide +kernel
theorem d_Md_window_25 : decode M_Md_window.2.1 25 = .ok (.istore_n 3, 1) := by decide +kernel
theorem d_Md_window_26 : decode M_Md_window.2.1 26 = .ok (.iconst 0, 1) := by decide +kernel
theorem d_Md_window_27 : decode M_Md_window.2.1 27 = .ok (.istore 4, 2) := by decide +kernel
theorem d_Md_window_29 : decode M_Md_window.2.1 29 = .ok (.iload 4, 2) := by decide +kernel
theorem d_Md_window_31 : decode M_Md_window.2.1 31 = .ok (.aload_n 0, 1) := by decide +kernel
theorem d_Md_window_32 : decode M_Md_window.2.1 32 = .ok (.getfield 73, 3) := by decide +kernel
theorem d_Md_window_35 : decode M_Md_window.2.1 35 = .ok (.if_icmp .ge 34, 3) := by decide +kernel
theorem d_Md_window_38 : decode M_Md_window.2.1 38 = .ok (.iload_n 3, 1) := by decide +kernel
theorem d_Md_window_39 : decode M_Md_window.2.1 39 = .ok (.aload_n 0, 1) := by decide +kernel
theorem d_Md_window_40 : decode M_Md_window.2.1 40 = .ok (.getfield 50, 3) := by decide +kernel
theorem d_Md_window_43 : decode M_Md_window.2.1 43 = .ok (.iload 4, 2) := by decide +kernel
theorem d_Md_window_45 : decode M_Md_window.2.1 45 = .ok (.iaload, 1) := by decide +kernel
theorem d_Md_window_46 : decode M_Md_window.2.1 46 = .ok (.iload_n 1, 1) := by decide +kernel
theorem d_Md_window_47 : decode M_Md_window.2.1 47 = .ok (.invokestatic 130, 3) := by decide +kernel
theorem d_Md_window_50 : decode M_Md_window.2.1 50 = .ok (.ifCond .eq 10, 3) := by decide +kernel
theorem d_Md_window_53 : decode M_Md_window.2.1 53 = .ok (.iconst 1, 1) := by decide +kernel
theorem d_Md_window_54 : decode M_Md_window.2.1 54 = .ok (.iload 4, 2) := by decide +kernel
theorem d_Md_window_56 : decode M_Md_window.2.1 56 = .ok (.ishl, 1) := by decide +kernel
theorem d_Md_window_57 : decode M_Md_window.2.1 57 = .ok (.goto 4, 3) := by decide +kernel
theorem d_Md_window_60 : decode M_Md_window.2.1 60 = .ok (.iconst 0, 1) := by decide +kernel
theorem d_Md_window_61 : decode M_Md_window.2.1 61 = .ok (.ior, 1) := by decide +kernel
theorem d_Md_window_62 : decode M_Md_window.2.1 62 = .ok (.istore_n 3, 1) := by decide +kernel
theorem d_Md_window_63 : decode M_Md_window.2.1 63 = .ok (.iinc 4 1, 3) := by decide +kernel
theorem d_Md_window_66 : decode M_Md_window.2.1 66 = .ok (.goto (-37), 3) := by decide +kernel
theorem d_Md_window_69 : decode M_Md_window.2.1 69 = .ok (.iload_n 2, 1) := by decide +kernel
theorem d_Md_window_70 : decode M_Md_window.2.1 70 = .ok (.tableswitch 104 0 6 #[42, 52, 61, 68, 75, 84, 86], 42) := by decide +kernel
theorem d_Md_window_112 : decode M_Md_window.2.1 112 = .ok (.aload_n 0, 1) := by decide +kernel
theorem d_Md_window_113 : decode M_Md_window.2.1 113 = .ok (.getfield 25, 3) := by decide +kernel
theorem d_Md_window_116 : decode M_Md_window.2.1 116 = .ok (.bipush 19, 2) := by decide +kernel
theorem d_Md_window_118 : decode M_Md_window.2.1 118 = .ok (.iload_n 1, 1) := by decide +kernel
theorem d_Md_window_119 : decode M_Md_window.2.1 119 = .ok (.iadd, 1) := by decide +kernel
theorem d_Md_window_120 : decode M_Md_window.2.1 120 = .ok (.iaload, 1) := by decide +kernel
theorem d_Md_window_121 : decode M_Md_window.2.1 121 = .ok (.ireturn, 1) := by decide +kernel
theorem d_Md_window_122 : decode M_Md_window.2.1 122 = .ok (.aload_n 0, 1) := by decide +kernel
theorem d_Md_window_123 : decode M_Md_window.2.1 123 = .ok (.getfield 25, 3) := by decide +kernel
theorem d_Md_window_126 : decode M_Md_window.2.1 126 = .ok (.iconst 0, 1) := by decide +kernel
theorem d_Md_window_127 : decode M_Md_window.2.1 127 = .ok (.iload_n 1, 1) := by decide +kernel
theorem d_Md_window_128 : decode M_Md_window.2.1 128 = .ok (.iadd, 1) := by decide +kernel
theorem d_Md_window_129 : decode M_Md_window.2.1 129 = .ok (.iaload, 1) := by decide +kernel
theorem d_Md_window_130 : decode M_Md_window.2.1 130 = .ok (.ireturn, 1) := by decide +kernel
theorem d_Md_window_131 : decode M_Md_window.2.1 131 = .ok (.aload_n 0, 1) := by decide +kernel
theorem d_Md_window_132 : decode M_Md_window.2.1 132 = .ok (.getfield 13, 3) := by decide +kernel
theorem d_Md_window_135 : decode M_Md_window.2.1 135 = .ok (.iload_n 1, 1) := by decide +kernel
theorem d_Md_window_136 : decode M_Md_window.2.1 136 = .ok (.iaload, 1) := by decide +kernel
theorem d_Md_window_137 : decode M_Md_window.2.1 137 = .ok (.ireturn, 1) := by decide +kernel
theorem d_Md_window_138 : decode M_Md_window.2.1 138 = .ok (.aload_n 0, 1) := by decide +kernel
theorem d_Md_window_139 : decode M_Md_window.2.1 139 = .ok (.getfield 53, 3) := by decide +kernel
theorem d_Md_window_142 : decode M_Md_window.2.1 142 = .ok (.iload_n 1, 1) := by decide +kernel
theorem d_Md_window_143 : decode M_Md_window.2.1 143 = .ok (.iaload, 1) := by decide +kernel
theorem d_Md_window_144 : decode M_Md_window.2.1 144 = .ok (.ireturn, 1) := by decide +kernel
theorem d_Md_window_145 : decode M_Md_window.2.1 145 = .ok (.aload_n 0, 1) := by decide +kernel
theorem d_Md_window_146 : decode M_Md_window.2.1 146 = .ok (.getfield 25, 3) := by decide +kernel
theorem d_Md_window_149 : decode M_Md_window.2.1 149 = .ok (.iconst 5, 1) := by decide +kernel
theorem d_Md_window_150 : decode M_Md_window.2.1 150 = .ok (.iload_n 1, 1) := by decide +kernel
theorem d_Md_window_151 : decode M_Md_window.2.1 151 = .ok (.iadd, 1) := by decide +kernel
theorem d_Md_window_152 : decode M_Md_window.2.1 152 = .ok (.iaload, 1) := by decide +kernel
theorem d_Md_window_153 : decode M_Md_window.2.1 153 = .ok (.ireturn, 1) := by decide +kernel
theorem d_Md_window_154 : decode M_Md_window.2.1 154 = .ok (.iload_n 3, 1) := by decide +kernel
theorem d_Md_window_155 : decode M_Md_window.2.1 155 = .ok (.ireturn, 1) := by decide +kernel
theorem d_Md_window_156 : decode M_Md_window.2.1 156 = .ok (.aload_n 0, 1) := by decide +kernel
theorem d_Md_window_157 : decode M_Md_window.2.1 157 = .ok (.aload_n 0, 1) := by decide +kernel
theorem d_Md_window_158 : decode M_Md_window.2.1 158 = .ok (.getfield 25, 3) := by decide +kernel
theorem d_Md_window_161 : decode M_Md_window.2.1 161 = .ok (.iload_n 1, 1) := by decide +kernel
theorem d_Md_window_162 : decode M_Md_window.2.1 162 = .ok (.invokevirtual 140, 3) := by decide +kernel
theorem d_Md_window_165 : decode M_Md_window.2.1 165 = .ok (.ifCond .eq 7, 3) := by decide +kernel
theorem d_Md_window_168 : decode M_Md_window.2.1 168 = .ok (.iconst 1, 1) := by decide +kernel
theorem d_Md_window_169 : decode M_Md_window.2.1 169 = .ok (.goto 4, 3) := by decide +kernel
theorem d_Md_window_172 : decode M_Md_window.2.1 172 = .ok (.iconst 0, 1) := by decide +kernel
theorem d_Md_window_173 : decode M_Md_window.2.1 173 = .ok (.ireturn, 1) := by decide +kernel
theorem d_Md_window_174 : decode M_Md_window.2.1 174 = .ok (.bipush (-2), 2) := by decide +kernel
theorem d_Md_window_176 : decode M_Md_window.2.1 176 = .ok (.ireturn, 1) := by decide +kernel
theorem d_Md_moth_0 : decode M_Md_moth.2.1 0 = .ok (.aload_n 0, 1) := by decide +kernel
theorem d_Md_moth_1 : decode M_Md_moth.2.1 1 = .ok (.iconst 0, 1) := by decide +kernel
theorem d_Md_moth_2 : decode M_Md_moth.2.1 2 = .ok (.putfield 62, 3) := by decide +kernel
theorem d_Md_moth_5 : decode M_Md_moth.2.1 5 = .ok (.aload_n 0, 1) := by decide +kernel
theorem d_Md_moth_6 : decode M_Md_moth.2.1 6 = .ok (.iload_n 1, 1) := by decide +kernel
theorem d_Md_moth_7 : decode M_Md_moth.2.1 7 = .ok (.invokevirtual 161, 3) := by decide +kernel
theorem d_Md_moth_10 : decode M_Md_moth.2.1 10 = .ok (.ifCond .eq 5, 3) := by decide +kernel
theorem d_Md_moth_13 : decode M_Md_moth.2.1 13 = .ok (.iconst (-1), 1) := by decide +kernel
theorem d_Md_moth_14 : decode M_Md_moth.2.1 14 = .ok (.ireturn, 1) := by decide +kernel
theorem d_Md_moth_15 : decode M_Md_moth.2.1 15 = .ok (.aload_n 0, 1) := by decide +kernel
theorem d_Md_moth_16 : decode M_Md_moth.2.1 16 = .ok (.aload_n 0, 1) := by decide +kernel
theorem d_Md_moth_17 : decode M_Md_moth.2.1 17 = .ok (.getfield 25, 3) := by decide +kernel
theorem d_Md_moth_20 : decode M_Md_moth.2.1 20 = .ok (.invokevirtual 148, 3) := by decide +kernel
theorem d_Md_moth_23 : decode M_Md_moth.2.1 23 = .ok (.pop, 1) := by decide +kernel
theorem d_Md_moth_24 : decode M_Md_moth.2.1 24 = .ok (.iload_n 2, 1) := by decide +kernel
theorem d_Md_moth_25 : decode M_Md_moth.2.1 25 = .ok (.tableswitch 65 0 3 #[31, 41, 48, 55], 31) := by decide +kernel
theorem d_Md_moth_56 : decode M_Md_moth.2.1 56 = .ok (.aload_n 0, 1) := by decide +kernel
theorem d_Md_moth_57 : decode M_Md_moth.2.1 57 = .ok (.getfield 25, 3) := by decide +kernel
theorem d_Md_moth_60 : decode M_Md_moth.2.1 60 = .ok (.bipush 10, 2) := by decide +kernel
theorem d_Md_moth_62 : decode M_Md_moth.2.1 62 = .ok (.iload_n 1, 1) := by decide +kernel
theorem d_Md_moth_63 : decode M_Md_moth.2.1 63 = .ok (.iadd, 1) := by decide +kernel
theorem d_Md_moth_64 : decode M_Md_moth.2.1 64 = .ok (.iaload, 1) := by decide +kernel
theorem d_Md_moth_65 : decode M_Md_moth.2.1 65 = .ok (.ireturn, 1) := by decide +kernel
theorem d_Md_moth_66 : decode M_Md_moth.2.1 66 = .ok (.aload_n 0, 1) := by decide +kernel
theorem d_Md_moth_67 : decode M_Md_moth.2.1 67 = .ok (.getfield 16, 3) := by decide +kernel
theorem d_Md_moth_70 : decode M_Md_moth.2.1 70 = .ok (.iload_n 1, 1) := by decide +kernel
theorem d_Md_moth_71 : decode M_Md_moth.2.1 71 = .ok (.iaload, 1) := by decide +kernel
theorem d_Md_moth_72 : decode M_Md_moth.2.1 72 = .ok (.ireturn, 1) := by decide +kernel
theorem d_Md_moth_73 : decode M_Md_moth.2.1 73 = .ok (.aload_n 0, 1) := by decide +kernel
theorem d_Md_moth_74 : decode M_Md_moth.2.1 74 = .ok (.getfield 50, 3) := by decide +kernel
theorem d_Md_moth_77 : decode M_Md_moth.2.1 77 = .ok (.iload_n 1, 1) := by decide +kernel
theorem d_Md_moth_78 : decode M_Md_moth.2.1 78 = .ok (.iaload, 1) := by decide +kernel
theorem d_Md_moth_79 : decode M_Md_moth.2.1 79 = .ok (.ireturn, 1) := by decide +kernel
theorem d_Md_moth_80 : decode M_Md_moth.2.1 80 = .ok (.aload_n 0, 1) := by decide +kernel
theorem d_Md_moth_81 : decode M_Md_moth.2.1 81 = .ok (.aload_n 0, 1) := by decide +kernel
theorem d_Md_moth_82 : decode M_Md_moth.2.1 82 = .ok (.getfield 25, 3) := by decide +kernel
theorem d_Md_moth_85 : decode M_Md_moth.2.1 85 = .ok (.iload_n 1, 1) := by decide +kernel
theorem d_Md_moth_86 : decode M_Md_moth.2.1 86 = .ok (.invokevirtual 126, 3) := by decide +kernel
theorem d_Md_moth_89 : decode M_Md_moth.2.1 89 = .ok (.ireturn, 1) := by decide +kernel
theorem d_Md_moth_90 : decode M_Md_moth.2.1 90 = .ok (.bipush (-2), 2) := by decide +kernel
theorem d_Md_moth_92 : decode M_Md_moth.2.1 92 = .ok (.ireturn, 1) := by decide +kernel
theorem d_Md_pull_0 : decode M_Md_pull.2.1 0 = .ok (.aload_n 0, 1) := by decide +kernel
theorem d_Md_pull_1 : decode M_Md_pull.2.1 1 = .ok (.iconst 0, 1) := by decide +kernel
theorem d_Md_pull_2 : decode M_Md_pull.2.1 2 = .ok (.putfield 62, 3) := by decide +kernel
theorem d_Md_pull_5 : decode M_Md_pull.2.1 5 = .ok (.aload_n 0, 1) := by decide +kernel
theorem d_Md_pull_6 : decode M_Md_pull.2.1 6 = .ok (.iload_n 1, 1) := by decide +kernel
theorem d_Md_pull_7 : decode M_Md_pull.2.1 7 = .ok (.invokevirtual 157, 3) := by decide +kernel
theorem d_Md_pull_10 : decode M_Md_pull.2.1 10 = .ok (.ifCond .ne 11, 3) := by decide +kernel
theorem d_Md_pull_13 : decode M_Md_pull.2.1 13 = .ok (.aload_n 0, 1) := by decide +kernel
theorem d_Md_pull_14 : decode M_Md_pull.2.1 14 = .ok (.iload_n 2, 1) := by decide +kernel
theorem d_Md_pull_15 : decode M_Md_pull.2.1 15 = .ok (.invokevirtual 161, 3) := by decide +kernel
theorem d_Md_pull_18 : decode M_Md_pull.2.1 18 = .ok (.ifCond .eq 7, 3) := by decide +kernel
theorem d_Md_pull_21 : decode M_Md_pull.2.1 21 = .ok (.iconst (-1), 1) := by decide +kernel
theorem d_Md_pull_22 : decode M_Md_pull.2.1 22 = .ok (.goto 13, 3) := by decide +kernel
theorem d_Md_pull_25 : decode M_Md_pull.2.1 25 = .ok (.aload_n 0, 1) := by decide +kernel
theorem d_Md_pull_26 : decode M_Md_pull.2.1 26 = .ok (.aload_n 0, 1) := by decide +kernel
theorem d_Md_pull_27 : decode M_Md_pull.2.1 27 = .ok (.getfield 25, 3) := by decide +kernel
theorem d_Md_pull_30 : decode M_Md_pull.2.1 30 = .ok (.iload_n 1, 1) := by decide +kernel
theorem d_Md_pull_31 : decode M_Md_pull.2.1 31 = .ok (.iload_n 2, 1) := by decide +kernel
theorem d_Md_pull_32 : decode M_Md_pull.2.1 32 = .ok (.invokevirtual 122, 3) := by decide +kernel
theorem d_Md_pull_35 : decode M_Md_pull.2.1 35 = .ok (.ireturn, 1) := by decide +kernel
theorem d_Md_note_0 : decode M_Md_note.2.1 0 = .ok (.aload_n 0, 1) := by decide +kernel
theorem d_Md_note_1 : decode M_Md_note.2.1 1 = .ok (.getfield 119, 3) := by decide +kernel
theorem d_Md_note_4 : decode M_Md_note.2.1 4 = .ok (.bipush 14, 2) := by decide +kernel
theorem d_Md_note_6 : decode M_Md_note.2.1 6 = .ok (.if_icmp .ne 43, 3) := by decide +kernel
theorem d_Md_note_9 : decode M_Md_note.2.1 9 = .ok (.iconst 0, 1) := by decide +kernel
theorem d_Md_note_10 : decode M_Md_note.2.1 10 = .ok (.istore_n 1, 1) := by decide +kernel
theorem d_Md_note_11 : decode M_Md_note.2.1 11 = .ok (.iload_n 1, 1) := by decide +kernel
theorem d_Md_note_12 : decode M_Md_note.2.1 12 = .ok (.sipush 312, 3) := by decide +kernel
theorem d_Md_note_15 : decode M_Md_note.2.1 15 = .ok (.if_icmp .ge 24, 3) := by decide +kernel
theorem d_Md_note_18 : decode M_Md_note.2.1 18 = .ok (.aload_n 0, 1) := by decide +kernel
theorem d_Md_note_19 : decode M_Md_note.2.1 19 = .ok (.getfield 31, 3) := by decide +kernel
theorem d_Md_note_22 : decode M_Md_note.2.1 22 = .ok (.iload_n 1, 1) := by decide +kernel
theorem d_Md_note_23 : decode M_Md_note.2.1 23 = .ok (.aload_n 0, 1) := by decide +kernel
theorem d_Md_note_24 : decode M_Md_note.2.1 24 = .ok (.getfield 31, 3) := by decide +kernel
theorem d_Md_note_27 : decode M_Md_note.2.1 27 = .ok (.iload_n 1, 1) := by decide +kernel
theorem d_Md_note_28 : decode M_Md_note.2.1 28 = .ok (.bipush 24, 2) := by decide +kernel
theorem d_Md_note_30 : decode M_Md_note.2.1 30 = .ok (.iadd, 1) := by decide +kernel
theorem d_Md_note_31 : decode M_Md_note.2.1 31 = .ok (.iaload, 1) := by decide +kernel
theorem d_Md_note_32 : decode M_Md_note.2.1 32 = .ok (.iastore, 1) := by decide +kernel
theorem d_Md_note_33 : decode M_Md_note.2.1 33 = .ok (.iinc 1 1, 3) := by decide +kernel
theorem d_Md_note_36 : decode M_Md_note.2.1 36 = .ok (.goto (-25), 3) := by decide +kernel
theorem d_Md_note_39 : decode M_Md_note.2.1 39 = .ok (.aload_n 0, 1) := by decide +kernel
theorem d_Md_note_40 : decode M_Md_note.2.1 40 = .ok (.dup, 1) := by decide +kernel
theorem d_Md_note_41 : decode M_Md_note.2.1 41 = .ok (.getfield 119, 3) := by decide +kernel
theorem d_Md_note_44 : decode M_Md_note.2.1 44 = .ok (.iconst 1, 1) := by decide +kernel
theorem d_Md_note_45 : decode M_Md_note.2.1 45 = .ok (.isub, 1) := by decide +kernel
theorem d_Md_note_46 : decode M_Md_note.2.1 46 = .ok (.putfield 119, 3) := by decide +kernel
theorem d_Md_note_49 : decode M_Md_note.2.1 49 = .ok (.iconst 0, 1) := by decide +kernel
theorem d_Md_note_50 : decode M_Md_note.2.1 50 = .ok (.istore_n 1, 1) := by decide +kernel
theorem d_Md_note_51 : decode M_Md_note.2.1 51 = .ok (.iload_n 1, 1) := by decide +kernel
theorem d_Md_note_52 : decode M_Md_note.2.1 52 = .ok (.bipush 24, 2) := by decide +kernel
theorem d_Md_note_54 : decode M_Md_note.2.1 54 = .ok (.if_icmp .ge 29, 3) := by decide +kernel
theorem d_Md_note_57 : decode M_Md_note.2.1 57 = .ok (.aload_n 0, 1) := by decide +kernel
theorem d_Md_note_58 : decode M_Md_note.2.1 58 = .ok (.getfield 31, 3) := by decide +kernel
theorem d_Md_note_61 : decode M_Md_note.2.1 61 = .ok (.bipush 24, 2) := by decide +kernel
theorem d_Md_note_63 : decode M_Md_note.2.1 63 = .ok (.aload_n 0, 1) := by decide +kernel
theorem d_Md_note_64 : decode M_Md_note.2.1 64 = .ok (.getfield 119, 3) := by decide +kernel
theorem d_Md_note_67 : decode M_Md_note.2.1 67 = .ok (.imul, 1) := by decide +kernel
theorem d_Md_note_68 : decode M_Md_note.2.1 68 = .ok (.iload_n 1, 1) := by decide +kernel
theorem d_Md_note_69 : decode M_Md_note.2.1 69 = .ok (.iadd, 1) := by decide +kernel
theorem d_Md_note_70 : decode M_Md_note.2.1 70 = .ok (.aload_n 0, 1) := by decide +kernel
theorem d_Md_note_71 : decode M_Md_note.2.1 71 = .ok (.getfield 25, 3) := by decide +kernel
theorem d_Md_note_74 : decode M_Md_note.2.1 74 = .ok (.iload_n 1, 1) := by decide +kernel
theorem d_Md_note_75 : decode M_Md_note.2.1 75 = .ok (.iaload, 1) := by decide +kernel
theorem d_Md_note_76 : decode M_Md_note.2.1 76 = .ok (.iastore, 1) := by decide +kernel
theorem d_Md_note_77 : decode M_Md_note.2.1 77 = .ok (.iinc 1 1, 3) := by decide +kernel
theorem d_Md_note_80 : decode M_Md_note.2.1 80 = .ok (.goto (-29), 3) := by decide +kernel
theorem d_Md_note_83 : decode M_Md_note.2.1 83 = .ok (.aload_n 0, 1) := by decide +kernel
theorem d_Md_note_84 : decode M_Md_note.2.1 84 = .ok (.dup, 1) := by decide +kernel
theorem d_Md_note_85 : decode M_Md_note.2.1 85 = .ok (.getfield 119, 3) := by decide +kernel
theorem d_Md_note_88 : decode M_Md_note.2.1 88 = .ok (.iconst 1, 1) := by decide +kernel
theorem d_Md_note_89 : decode M_Md_note.2.1 89 = .ok (.iadd, 1) := by decide +kernel
theorem d_Md_note_90 : decode M_Md_note.2.1 90 = .ok (.putfield 119, 3) := by decide +kernel
theorem d_Md_note_93 : decode M_Md_note.2.1 93 = .ok (.return_, 1) := by decide +kernel
theorem d_Md_turned_0 : decode M_Md_turned.2.1 0 = .ok (.aload_n 0, 1) := by decide +kernel
theorem d_Md_turned_1 : decode M_Md_turned.2.1 1 = .ok (.iload_n 1, 1) := by decide +kernel
theorem d_Md_turned_2 : decode M_Md_turned.2.1 2 = .ok (.invokevirtual 157, 3) := by decide +kernel
theorem d_Md_turned_5 : decode M_Md_turned.2.1 5 = .ok (.ifCond .eq 5, 3) := by decide +kernel
theorem d_Md_turned_8 : decode M_Md_turned.2.1 8 = .ok (.iconst (-1), 1) := by decide +kernel
theorem d_Md_turned_9 : decode M_Md_turned.2.1 9 = .ok (.ireturn, 1) := by decide +kernel
theorem d_Md_turned_10 : decode M_Md_turned.2.1 10 = .ok (.aload_n 0, 1) := by decide +kernel
theorem d_Md_turned_11 : decode M_Md_turned.2.1 11 = .ok (.getfield 25, 3) := by decide +kernel
theorem d_Md_turned_14 : decode M_Md_turned.2.1 14 = .ok (.iconst 0, 1) := by decide +kernel
theorem d_Md_turned_15 : decode M_Md_turned.2.1 15 = .ok (.iload_n 1, 1) := by decide +kernel
theorem d_Md_turned_16 : decode M_Md_turned.2.1 16 = .ok (.iadd, 1) := by decide +kernel
theorem d_Md_turned_17 : decode M_Md_turned.2.1 17 = .ok (.iaload, 1) := by decide +kernel
theorem d_Md_turned_18 : decode M_Md_turned.2.1 18 = .ok (.iload_n 2, 1) := by decide +kernel
theorem d_Md_turned_19 : decode M_Md_turned.2.1 19 = .ok (.iadd, 1) := by decide +kernel
theorem d_Md_turned_20 : decode M_Md_turned.2.1 20 = .ok (.i2l, 1) := by decide +kernel
theorem d_Md_turned_21 : decode M_Md_turned.2.1 21 = .ok (.lconst 0, 1) := by decide +kernel
theorem d_Md_turned_22 : decode M_Md_turned.2.1 22 = .ok (.ldc2_w 164, 3) := by decide +kernel
theorem d_Md_turned_25 : decode M_Md_turned.2.1 25 = .ok (.invokestatic 69, 3) := by decide +kernel
theorem d_Md_turned_28 : decode M_Md_turned.2.1 28 = .ok (.ifCond .ne 6, 3) := by decide +kernel
theorem d_Md_turned_31 : decode M_Md_turned.2.1 31 = .ok (.bipush (-3), 2) := by decide +kernel
theorem d_Md_turned_33 : decode M_Md_turned.2.1 33 = .ok (.ireturn, 1) := by decide +kernel
theorem d_Md_turned_34 : decode M_Md_turned.2.1 34 = .ok (.aload_n 0, 1) := by decide +kernel
theorem d_Md_turned_35 : decode M_Md_turned.2.1 35 = .ok (.invokevirtual 166, 3) := by decide +kernel
theorem d_Md_turned_38 : decode M_Md_turned.2.1 38 = .ok (.aload_n 0, 1) := by decide +kernel
theorem d_Md_turned_39 : decode M_Md_turned.2.1 39 = .ok (.getfield 25, 3) := by decide +kernel
theorem d_Md_turned_42 : decode M_Md_turned.2.1 42 = .ok (.iconst 0, 1) := by decide +kernel
theorem d_Md_turned_43 : decode M_Md_turned.2.1 43 = .ok (.iload_n 1, 1) := by decide +kernel
theorem d_Md_turned_44 : decode M_Md_turned.2.1 44 = .ok (.iadd, 1) := by decide +kernel
theorem d_Md_turned_45 : decode M_Md_turned.2.1 45 = .ok (.dup2, 1) := by decide +kernel
theorem d_Md_turned_46 : decode M_Md_turned.2.1 46 = .ok (.iaload, 1) := by decide +kernel
theorem d_Md_turned_47 : decode M_Md_turned.2.1 47 = .ok (.iload_n 2, 1) := by decide +kernel
theorem d_Md_turned_48 : decode M_Md_turned.2.1 48 = .ok (.iadd, 1) := by decide +kernel
theorem d_Md_turned_49 : decode M_Md_turned.2.1 49 = .ok (.iastore, 1) := by decide +kernel
theorem d_Md_turned_50 : decode M_Md_turned.2.1 50 = .ok (.aload_n 0, 1) := by decide +kernel
theorem d_Md_turned_51 : decode M_Md_turned.2.1 51 = .ok (.getfield 25, 3) := by decide +kernel
theorem d_Md_turned_54 : decode M_Md_turned.2.1 54 = .ok (.iconst 0, 1) := by decide +kernel
theorem d_Md_turned_55 : decode M_Md_turned.2.1 55 = .ok (.iload_n 1, 1) := by decide +kernel
theorem d_Md_turned_56 : decode M_Md_turned.2.1 56 = .ok (.iadd, 1) := by decide +kernel
theorem d_Md_turned_57 : decode M_Md_turned.2.1 57 = .ok (.iaload, 1) := by decide +kernel
theorem d_Md_turned_58 : decode M_Md_turned.2.1 58 = .ok (.ireturn, 1) := by decide +kernel
theorem d_Md_up_0 : decode M_Md_up.2.1 0 = .ok (.aload_n 0, 1) := by decide +kernel
theorem d_Md_up_1 : decode M_Md_up.2.1 1 = .ok (.iconst 0, 1) := by decide +kernel
theorem d_Md_up_2 : decode M_Md_up.2.1 2 = .ok (.putfield 62, 3) := by decide +kernel
theorem d_Md_up_5 : decode M_Md_up.2.1 5 = .ok (.aload_n 0, 1) := by decide +kernel
theorem d_Md_up_6 : decode M_Md_up.2.1 6 = .ok (.iload_n 1, 1) := by decide +kernel
theorem d_Md_up_7 : decode M_Md_up.2.1 7 = .ok (.iconst 1, 1) := by decide +kernel
theorem d_Md_up_8 : decode M_Md_up.2.1 8 = .ok (.invokevirtual 169, 3) := by decide +kernel
theorem d_Md_up_11 : decode M_Md_up.2.1 11 = .ok (.ireturn, 1) := by decide +kernel
theorem d_Md_down_0 : decode M_Md_down.2.1 0 = .ok (.aload_n 0, 1) := by decide +kernel
theorem d_Md_down_1 : decode M_Md_down.2.1 1 = .ok (.iconst 0, 1) := by decide +kernel
theorem d_Md_down_2 : decode M_Md_down.2.1 2 = .ok (.putfield 62, 3) := by decide +kernel
theorem d_Md_down_5 : decode M_Md_down.2.1 5 = .ok (.aload_n 0, 1) := by decide +kernel
theorem d_Md_down_6 : decode M_Md_down.2.1 6 = .ok (.iload_n 1, 1) := by decide +kernel
theorem d_Md_down_7 : decode M_Md_down.2.1 7 = .ok (.iconst (-1), 1) := by decide +kernel
theorem d_Md_down_8 : decode M_Md_down.2.1 8 = .ok (.invokevirtual 169, 3) := by decide +kernel
theorem d_Md_down_11 : decode M_Md_down.2.1 11 = .ok (.ireturn, 1) := by decide +kernel
theorem d_Md_blow_0 : decode M_Md_blow.2.1 0 = .ok (.aload_n 0, 1) := by decide +kernel
theorem d_Md_blow_1 : decode M_Md_blow.2.1 1 = .ok (.iconst 0, 1) := by decide +kernel
theorem d_Md_blow_2 : decode M_Md_blow.2.1 2 = .ok (.putfield 62, 3) := by decide +kernel
theorem d_Md_blow_5 : decode M_Md_blow.2.1 5 = .ok (.iload_n 1, 1) := by decide +kernel
theorem d_Md_blow_6 : decode M_Md_blow.2.1 6 = .ok (.i2l, 1) := by decide +kernel
theorem d_Md_blow_7 : decode M_Md_blow.2.1 7 = .ok (.lconst 0, 1) := by decide +kernel
theorem d_Md_blow_8 : decode M_Md_blow.2.1 8 = .ok (.ldc2_w 172, 3) := by decide +kernel
theorem d_Md_blow_11 : decode M_Md_blow.2.1 11 = .ok (.invokestatic 69, 3) := by decide +kernel
theorem d_Md_blow_14 : decode M_Md_blow.2.1 14 = .ok (.ifCond .ne 6, 3) := by decide +kernel
theorem d_Md_blow_17 : decode M_Md_blow.2.1 17 = .ok (.bipush (-2), 2) := by decide +kernel
theorem d_Md_blow_19 : decode M_Md_blow.2.1 19 = .ok (.ireturn, 1) := by decide +kernel
theorem d_Md_blow_20 : decode M_Md_blow.2.1 20 = .ok (.aload_n 0, 1) := by decide +kernel
theorem d_Md_blow_21 : decode M_Md_blow.2.1 21 = .ok (.getfield 25, 3) := by decide +kernel
theorem d_Md_blow_24 : decode M_Md_blow.2.1 24 = .ok (.bipush 16, 2) := by decide +kernel
theorem d_Md_blow_26 : decode M_Md_blow.2.1 26 = .ok (.iaload, 1) := by decide +kernel
theorem d_Md_blow_27 : decode M_Md_blow.2.1 27 = .ok (.istore_n 2, 1) := by decide +kernel
theorem d_Md_blow_28 : decode M_Md_blow.2.1 28 = .ok (.iload_n 2, 1) := by decide +kernel
theorem d_Md_blow_29 : decode M_Md_blow.2.1 29 = .ok (.iload_n 1, 1) := by decide +kernel
theorem d_Md_blow_30 : decode M_Md_blow.2.1 30 = .ok (.if_icmp .ne 6, 3) := by decide +kernel
theorem d_Md_blow_33 : decode M_Md_blow.2.1 33 = .ok (.bipush (-3), 2) := by decide +kernel
theorem d_Md_blow_35 : decode M_Md_blow.2.1 35 = .ok (.ireturn, 1) := by decide +kernel
theorem d_Md_blow_36 : decode M_Md_blow.2.1 36 = .ok (.aload_n 0, 1) := by decide +kernel
theorem d_Md_blow_37 : decode M_Md_blow.2.1 37 = .ok (.invokevirtual 166, 3) := by decide +kernel
theorem d_Md_blow_40 : decode M_Md_blow.2.1 40 = .ok (.aload_n 0, 1) := by decide +kernel
theorem d_Md_blow_41 : decode M_Md_blow.2.1 41 = .ok (.getfield 25, 3) := by decide +kernel
theorem d_Md_blow_44 : decode M_Md_blow.2.1 44 = .ok (.bipush 16, 2) := by decide +kernel
theorem d_Md_blow_46 : decode M_Md_blow.2.1 46 = .ok (.iload_n 1, 1) := by decide +kernel
theorem d_Md_blow_47 : decode M_Md_blow.2.1 47 = .ok (.iastore, 1) := by decide +kernel
theorem d_Md_blow_48 : decode M_Md_blow.2.1 48 = .ok (.iload_n 2, 1) := by decide +kernel
theorem d_Md_blow_49 : decode M_Md_blow.2.1 49 = .ok (.ireturn, 1) := by decide +kernel
theorem d_Md_move_0 : decode M_Md_move.2.1 0 = .ok (.aload_n 0, 1) := by decide +kernel
theorem d_Md_move_1 : decode M_Md_move.2.1 1 = .ok (.iconst 0, 1) := by decide +kernel
theorem d_Md_move_2 : decode M_Md_move.2.1 2 = .ok (.putfield 62, 3) := by decide +kernel
theorem d_Md_move_5 : decode M_Md_move.2.1 5 = .ok (.iload_n 1, 1) := by decide +kernel
theorem d_Md_move_6 : decode M_Md_move.2.1 6 = .ok (.i2l, 1) := by decide +kernel
theorem d_Md_move_7 : decode M_Md_move.2.1 7 = .ok (.lconst 0, 1) := by decide +kernel
theorem d_Md_move_8 : decode M_Md_move.2.1 8 = .ok (.ldc2_w 164, 3) := by decide +kernel
theorem d_Md_move_11 : decode M_Md_move.2.1 11 = .ok (.invokestatic 69, 3) := by decide +kernel
theorem d_Md_move_14 : decode M_Md_move.2.1 14 = .ok (.ifCond .ne 6, 3) := by decide +kernel
theorem d_Md_move_17 : decode M_Md_move.2.1 17 = .ok (.bipush (-2), 2) := by decide +kernel
theorem d_Md_move_19 : decode M_Md_move.2.1 19 = .ok (.ireturn, 1) := by decide +kernel
theorem d_Md_move_20 : decode M_Md_move.2.1 20 = .ok (.aload_n 0, 1) := by decide +kernel
theorem d_Md_move_21 : decode M_Md_move.2.1 21 = .ok (.getfield 25, 3) := by decide +kernel
theorem d_Md_move_24 : decode M_Md_move.2.1 24 = .ok (.bipush 17, 2) := by decide +kernel
theorem d_Md_move_26 : decode M_Md_move.2.1 26 = .ok (.iaload, 1) := by decide +kernel
theorem d_Md_move_27 : decode M_Md_move.2.1 27 = .ok (.istore_n 2, 1) := by decide +kernel
theorem d_Md_move_28 : decode M_Md_move.2.1 28 = .ok (.iload_n 2, 1) := by decide +kernel
theorem d_Md_move_29 : decode M_Md_move.2.1 29 = .ok (.iload_n 1, 1) := by decide +kernel
theorem d_Md_move_30 : decode M_Md_move.2.1 30 = .ok (.if_icmp .ne 6, 3) := by decide +kernel
theorem d_Md_move_33 : decode M_Md_move.2.1 33 = .ok (.bipush (-3), 2) := by decide +kernel
theorem d_Md_move_35 : decode M_Md_move.2.1 35 = .ok (.ireturn, 1) := by decide +kernel
theorem d_Md_move_36 : decode M_Md_move.2.1 36 = .ok (.aload_n 0, 1) := by decide +kernel
theorem d_Md_move_37 : decode M_Md_move.2.1 37 = .ok (.invokevirtual 166, 3) := by decide +kernel
theorem d_Md_move_40 : decode M_Md_move.2.1 40 = .ok (.aload_n 0, 1) := by decide +kernel
theorem d_Md_move_41 : decode M_Md_move.2.1 41 = .ok (.getfield 25, 3) := by decide +kernel
theorem d_Md_move_44 : decode M_Md_move.2.1 44 = .ok (.bipush 17, 2) := by decide +kernel
theorem d_Md_move_46 : decode M_Md_move.2.1 46 = .ok (.iload_n 1, 1) := by decide +kernel
theorem d_Md_move_47 : decode M_Md_move.2.1 47 = .ok (.iastore, 1) := by decide +kernel
theorem d_Md_move_48 : decode M_Md_move.2.1 48 = .ok (.iload_n 2, 1) := by decide +kernel
theorem d_Md_move_49 : decode M_Md_move.2.1 49 = .ok (.ireturn, 1) := by decide +kernel
theorem d_Md_leastOf_0 : decode M_Md_leastOf.2.1 0 = .ok (.bipush (-9), 2) := by decide +kernel
theorem d_Md_leastOf_2 : decode M_Md_leastOf.2.1 2 = .ok (.istore_n 2, 1) := by decide +kernel
theorem d_Md_leastOf_3 : decode M_Md_leastOf.2.1 3 = .ok (.aload_n 0, 1) := by decide +kernel
theorem d_Md_leastOf_4 : decode M_Md_leastOf.2.1 4 = .ok (.getfield 66, 3) := by decide +kernel
theorem d_Md_leastOf_7 : decode M_Md_leastOf.2.1 7 = .ok (.iconst 1, 1) := by decide +kernel
theorem d_Md_leastOf_8 : decode M_Md_leastOf.2.1 8 = .ok (.isub, 1) := by decide +kernel
theorem d_Md_leastOf_9 : decode M_Md_leastOf.2.1 9 = .ok (.istore_n 3, 1) := by decide +kernel
theorem d_Md_leastOf_10 : decode M_Md_leastOf.2.1 10 = .ok (.iload_n 3, 1) := by decide +kernel
theorem d_Md_leastOf_11 : decode M_Md_leastOf.2.1 11 = .ok (.ifCond .lt 23, 3) := by decide +kernel
theorem d_Md_leastOf_14 : decode M_Md_leastOf.2.1 14 = .ok (.iload_n 1, 1) := by decide +kernel
theorem d_Md_leastOf_15 : decode M_Md_leastOf.2.1 15 = .ok (.iload_n 3, 1) := by decide +kernel
theorem d_Md_leastOf_16 : decode M_Md_leastOf.2.1 16 = .ok (.invokestatic 130, 3) := by decide +kernel
theorem d_Md_leastOf_19 : decode M_Md_leastOf.2.1 19 = .ok (.ifCond .eq 7, 3) := by decide +kernel
theorem d_Md_leastOf_22 : decode M_Md_leastOf.2.1 22 = .ok (.iload_n 3, 1) := by decide +kernel
theorem d_Md_leastOf_23 : decode M_Md_leastOf.2.1 23 = .ok (.goto 4, 3) := by decide +kernel
theorem d_Md_leastOf_26 : decode M_Md_leastOf.2.1 26 = .ok (.iload_n 2, 1) := by decide +kernel
theorem d_Md_leastOf_27 : decode M_Md_leastOf.2.1 27 = .ok (.istore_n 2, 1) := by decide +kernel
theorem d_Md_leastOf_28 : decode M_Md_leastOf.2.1 28 = .ok (.iinc 3 (-1), 3) := by decide +kernel
theorem d_Md_leastOf_31 : decode M_Md_leastOf.2.1 31 = .ok (.goto (-21), 3) := by decide +kernel
theorem d_Md_leastOf_34 : decode M_Md_leastOf.2.1 34 = .ok (.iload_n 2, 1) := by decide +kernel
theorem d_Md_leastOf_35 : decode M_Md_leastOf.2.1 35 = .ok (.ireturn, 1) := by decide +kernel
theorem d_Md_goNight_0 : decode M_Md_goNight.2.1 0 = .ok (.aload_n 0, 1) := by decide +kernel
theorem d_Md_goNight_1 : decode M_Md_goNight.2.1 1 = .ok (.aload_n 1, 1) := by decide +kernel
theorem d_Md_goNight_2 : decode M_Md_goNight.2.1 2 = .ok (.invokevirtual 148, 3) := by decide +kernel
theorem d_Md_goNight_5 : decode M_Md_goNight.2.1 5 = .ok (.istore_n 2, 1) := by decide +kernel
theorem d_Md_goNight_6 : decode M_Md_goNight.2.1 6 = .ok (.iconst 0, 1) := by decide +kernel
theorem d_Md_goNight_7 : decode M_Md_goNight.2.1 7 = .ok (.istore_n 3, 1) := by decide +kernel
theorem d_Md_goNight_8 : decode M_Md_goNight.2.1 8 = .ok (.iload_n 3, 1) := by decide +kernel
theorem d_Md_goNight_9 : decode M_Md_goNight.2.1 9 = .ok (.aload_n 0, 1) := by decide +kernel
theorem d_Md_goNight_10 : decode M_Md_goNight.2.1 10 = .ok (.getfield 66, 3) := by decide +kernel
theorem d_Md_goNight_13 : decode M_Md_goNight.2.1 13 = .ok (.if_icmp .ge 23, 3) := by decide +kernel
theorem d_Md_goNight_16 : decode M_Md_goNight.2.1 16 = .ok (.aload_n 1, 1) := by decide +kernel
theorem d_Md_goNight_17 : decode M_Md_goNight.2.1 17 = .ok (.iconst 5, 1) := by decide +kernel
theorem d_Md_goNight_18 : decode M_Md_goNight.2.1 18 = .ok (.iload_n 3, 1) := by decide +kernel
theorem d_Md_goNight_19 : decode M_Md_goNight.2.1 19 = .ok (.iadd, 1) := by decide +kernel
theorem d_Md_goNight_20 : decode M_Md_goNight.2.1 20 = .ok (.dup2, 1) := by decide +kernel
theorem d_Md_goNight_21 : decode M_Md_goNight.2.1 21 = .ok (.iaload, 1) := by decide +kernel
theorem d_Md_goNight_22 : decode M_Md_goNight.2.1 22 = .ok (.aload_n 0, 1) := by decide +kernel
theorem d_Md_goNight_23 : decode M_Md_goNight.2.1 23 = .ok (.getfield 53, 3) := by decide +kernel
theorem d_Md_goNight_26 : decode M_Md_goNight.2.1 26 = .ok (.iload_n 3, 1) := by decide +kernel
theorem d_Md_goNight_27 : decode M_Md_goNight.2.1 27 = .ok (.iaload, 1) := by decide +kernel
theorem d_Md_goNight_28 : decode M_Md_goNight.2.1 28 = .ok (.iadd, 1) := by decide +kernel
theorem d_Md_goNight_29 : decode M_Md_goNight.2.1 29 = .ok (.iastore, 1) := by decide +kernel
theorem d_Md_goNight_30 : decode M_Md_goNight.2.1 30 = .ok (.iinc 3 1, 3) := by decide +kernel
theorem d_Md_goNight_33 : decode M_Md_goNight.2.1 33 = .ok (.goto (-25), 3) := by decide +kernel
theorem d_Md_goNight_36 : decode M_Md_goNight.2.1 36 = .ok (.iconst 0, 1) := by decide +kernel
theorem d_Md_goNight_37 : decode M_Md_goNight.2.1 37 = .ok (.istore_n 3, 1) := by decide +kernel
theorem d_Md_goNight_38 : decode M_Md_goNight.2.1 38 = .ok (.iload_n 3, 1) := by decide +kernel
theorem d_Md_goNight_39 : decode M_Md_goNight.2.1 39 = .ok (.aload_n 0, 1) := by decide +kernel
theorem d_Md_goNight_40 : decode M_Md_goNight.2.1 40 = .ok (.getfield 73, 3) := by decide +kernel
theorem d_Md_goNight_43 : decode M_Md_goNight.2.1 43 = .ok (.if_icmp .ge 86, 3) := by decide +kernel
theorem d_Md_goNight_46 : decode M_Md_goNight.2.1 46 = .ok (.aload_n 0, 1) := by decide +kernel
theorem d_Md_goNight_47 : decode M_Md_goNight.2.1 47 = .ok (.aload_n 0, 1) := by decide +kernel
theorem d_Md_goNight_48 : decode M_Md_goNight.2.1 48 = .ok (.getfield 50, 3) := by decide +kernel
theorem d_Md_goNight_51 : decode M_Md_goNight.2.1 51 = .ok (.iload_n 3, 1) := by decide +kernel
theorem d_Md_goNight_52 : decode M_Md_goNight.2.1 52 = .ok (.iaload, 1) := by decide +kernel
theorem d_Md_goNight_53 : decode M_Md_goNight.2.1 53 = .ok (.invokevirtual 174, 3) := by decide +kernel
theorem d_Md_goNight_56 : decode M_Md_goNight.2.1 56 = .ok (.istore 4, 2) := by decide +kernel
theorem d_Md_goNight_58 : decode M_Md_goNight.2.1 58 = .ok (.iload 4, 2) := by decide +kernel
theorem d_Md_goNight_60 : decode M_Md_goNight.2.1 60 = .ok (.bipush (-9), 2) := by decide +kernel
theorem d_Md_goNight_62 : decode M_Md_goNight.2.1 62 = .ok (.if_icmp .ne 12, 3) := by decide +kernel
theorem d_Md_goNight_65 : decode M_Md_goNight.2.1 65 = .ok (.aload_n 1, 1) := by decide +kernel
theorem d_Md_goNight_66 : decode M_Md_goNight.2.1 66 = .ok (.bipush 10, 2) := by decide +kernel
theorem d_Md_goNight_68 : decode M_Md_goNight.2.1 68 = .ok (.iload_n 3, 1) := by decide +kernel
theorem d_Md_goNight_69 : decode M_Md_goNight.2.1 69 = .ok (.iadd, 1) := by decide +kernel
theorem d_Md_goNight_70 : decode M_Md_goNight.2.1 70 = .ok (.iaload, 1) := by decide +kernel
theorem d_Md_goNight_71 : decode M_Md_goNight.2.1 71 = .ok (.goto 10, 3) := by decide +kernel
theorem d_Md_goNight_74 : decode M_Md_goNight.2.1 74 = .ok (.aload_n 1, 1) := by decide +kernel
theorem d_Md_goNight_75 : decode M_Md_goNight.2.1 75 = .ok (.bipush 19, 2) := by decide +kernel
theorem d_Md_goNight_77 : decode M_Md_goNight.2.1 77 = .ok (.iload 4, 2) := by decide +kernel
theorem d_Md_goNight_79 : decode M_Md_goNight.2.1 79 = .ok (.iadd, 1) := by decide +kernel
theorem d_Md_goNight_80 : decode M_Md_goNight.2.1 80 = .ok (.iaload, 1) := by decide +kernel
theorem d_Md_goNight_81 : decode M_Md_goNight.2.1 81 = .ok (.istore 5, 2) := by decide +kernel
theorem d_Md_goNight_83 : decode M_Md_goNight.2.1 83 = .ok (.aload_n 1, 1) := by decide +kernel
theorem d_Md_goNight_84 : decode M_Md_goNight.2.1 84 = .ok (.bipush 10, 2) := by decide +kernel
theorem d_Md_goNight_86 : decode M_Md_goNight.2.1 86 = .ok (.iload_n 3, 1) := by decide +kernel
theorem d_Md_goNight_87 : decode M_Md_goNight.2.1 87 = .ok (.iadd, 1) := by decide +kernel
theorem d_Md_goNight_88 : decode M_Md_goNight.2.1 88 = .ok (.dup2, 1) := by decide +kernel
theorem d_Md_goNight_89 : decode M_Md_goNight.2.1 89 = .ok (.iaload, 1) := by decide +kernel
theorem d_Md_goNight_90 : decode M_Md_goNight.2.1 90 = .ok (.iload 5, 2) := by decide +kernel
theorem d_Md_goNight_92 : decode M_Md_goNight.2.1 92 = .ok (.aload_n 1, 1) := by decide +kernel
theorem d_Md_goNight_93 : decode M_Md_goNight.2.1 93 = .ok (.bipush 10, 2) := by decide +kernel
theorem d_Md_goNight_95 : decode M_Md_goNight.2.1 95 = .ok (.iload_n 3, 1) := by decide +kernel
theorem d_Md_goNight_96 : decode M_Md_goNight.2.1 96 = .ok (.iadd, 1) := by decide +kernel
theorem d_Md_goNight_97 : decode M_Md_goNight.2.1 97 = .ok (.iaload, 1) := by decide +kernel
theorem d_Md_goNight_98 : decode M_Md_goNight.2.1 98 = .ok (.if_icmp .le 7, 3) := by decide +kernel
theorem d_Md_goNight_101 : decode M_Md_goNight.2.1 101 = .ok (.iconst 1, 1) := by decide +kernel
theorem d_Md_goNight_102 : decode M_Md_goNight.2.1 102 = .ok (.goto 19, 3) := by decide +kernel
theorem d_Md_goNight_105 : decode M_Md_goNight.2.1 105 = .ok (.iload 5, 2) := by decide +kernel
theorem d_Md_goNight_107 : decode M_Md_goNight.2.1 107 = .ok (.aload_n 1, 1) := by decide +kernel
theorem d_Md_goNight_108 : decode M_Md_goNight.2.1 108 = .ok (.bipush 10, 2) := by decide +kernel
theorem d_Md_goNight_110 : decode M_Md_goNight.2.1 110 = .ok (.iload_n 3, 1) := by decide +kernel
theorem d_Md_goNight_111 : decode M_Md_goNight.2.1 111 = .ok (.iadd, 1) := by decide +kernel
theorem d_Md_goNight_112 : decode M_Md_goNight.2.1 112 = .ok (.iaload, 1) := by decide +kernel
theorem d_Md_goNight_113 : decode M_Md_goNight.2.1 113 = .ok (.if_icmp .ge 7, 3) := by decide +kernel
theorem d_Md_goNight_116 : decode M_Md_goNight.2.1 116 = .ok (.iconst (-1), 1) := by decide +kernel
theorem d_Md_goNight_117 : decode M_Md_goNight.2.1 117 = .ok (.goto 4, 3) := by decide +kernel
theorem d_Md_goNight_120 : decode M_Md_goNight.2.1 120 = .ok (.iconst 0, 1) := by decide +kernel
theorem d_Md_goNight_121 : decode M_Md_goNight.2.1 121 = .ok (.iadd, 1) := by decide +kernel
theorem d_Md_goNight_122 : decode M_Md_goNight.2.1 122 = .ok (.iastore, 1) := by decide +kernel
theorem d_Md_goNight_123 : decode M_Md_goNight.2.1 123 = .ok (.iinc 3 1, 3) := by decide +kernel
theorem d_Md_goNight_126 : decode M_Md_goNight.2.1 126 = .ok (.goto (-88), 3) := by decide +kernel
theorem d_Md_goNight_129 : decode M_Md_goNight.2.1 129 = .ok (.aload_n 1, 1) := by decide +kernel
theorem d_Md_goNight_130 : decode M_Md_goNight.2.1 130 = .ok (.bipush 18, 2) := by decide +kernel
theorem d_Md_goNight_132 : decode M_Md_goNight.2.1 132 = .ok (.dup2, 1) := by decide +kernel
theorem d_Md_goNight_133 : decode M_Md_goNight.2.1 133 = .ok (.iaload, 1) := by decide +kernel
theorem d_Md_goNight_134 : decode M_Md_goNight.2.1 134 = .ok (.iconst 1, 1) := by decide +kernel
theorem d_Md_goNight_135 : decode M_Md_goNight.2.1 135 = .ok (.iadd, 1) := by decide +kernel
theorem d_Md_goNight_136 : decode M_Md_goNight.2.1 136 = .ok (.iastore, 1) := by decide +kernel
theorem d_Md_goNight_137 : decode M_Md_goNight.2.1 137 = .ok (.iload_n 2, 1) := by decide +kernel
theorem d_Md_goNight_138 : decode M_Md_goNight.2.1 138 = .ok (.ireturn, 1) := by decide +kernel
theorem d_Md_night_0 : decode M_Md_night.2.1 0 = .ok (.aload_n 0, 1) := by decide +kernel
theorem d_Md_night_1 : decode M_Md_night.2.1 1 = .ok (.iconst 0, 1) := by decide +kernel
theorem d_Md_night_2 : decode M_Md_night.2.1 2 = .ok (.putfield 62, 3) := by decide +kernel
theorem d_Md_night_5 : decode M_Md_night.2.1 5 = .ok (.aload_n 0, 1) := by decide +kernel
theorem d_Md_night_6 : decode M_Md_night.2.1 6 = .ok (.invokevirtual 166, 3) := by decide +kernel
theorem d_Md_night_9 : decode M_Md_night.2.1 9 = .ok (.aload_n 0, 1) := by decide +kernel
theorem d_Md_night_10 : decode M_Md_night.2.1 10 = .ok (.aload_n 0, 1) := by decide +kernel
theorem d_Md_night_11 : decode M_Md_night.2.1 11 = .ok (.getfield 25, 3) := by decide +kernel
theorem d_Md_night_14 : decode M_Md_night.2.1 14 = .ok (.invokevirtual 177, 3) := by decide +kernel
theorem d_Md_night_17 : decode M_Md_night.2.1 17 = .ok (.ireturn, 1) := by decide +kernel
theorem d_Md_undo_0 : decode M_Md_undo.2.1 0 = .ok (.aload_n 0, 1) := by decide +kernel
theorem d_Md_undo_1 : decode M_Md_undo.2.1 1 = .ok (.iconst 0, 1) := by decide +kernel
theorem d_Md_undo_2 : decode M_Md_undo.2.1 2 = .ok (.putfield 62, 3) := by decide +kernel
theorem d_Md_undo_5 : decode M_Md_undo.2.1 5 = .ok (.aload_n 0, 1) := by decide +kernel
theorem d_Md_undo_6 : decode M_Md_undo.2.1 6 = .ok (.getfield 119, 3) := by decide +kernel
theorem d_Md_undo_9 : decode M_Md_undo.2.1 9 = .ok (.ifCond .ne 6, 3) := by decide +kernel
theorem d_Md_undo_12 : decode M_Md_undo.2.1 12 = .ok (.bipush (-3), 2) := by decide +kernel
theorem d_Md_undo_14 : decode M_Md_undo.2.1 14 = .ok (.ireturn, 1) := by decide +kernel
theorem d_Md_undo_15 : decode M_Md_undo.2.1 15 = .ok (.aload_n 0, 1) := by decide +kernel
theorem d_Md_undo_16 : decode M_Md_undo.2.1 16 = .ok (.dup, 1) := by decide +kernel
theorem d_Md_undo_17 : decode M_Md_undo.2.1 17 = .ok (.getfield 119, 3) := by decide +kernel
theorem d_Md_undo_20 : decode M_Md_undo.2.1 20 = .ok (.iconst 1, 1) := by decide +kernel
theorem d_Md_undo_21 : decode M_Md_undo.2.1 21 = .ok (.isub, 1) := by decide +kernel
theorem d_Md_undo_22 : decode M_Md_undo.2.1 22 = .ok (.putfield 119, 3) := by decide +kernel
theorem d_Md_undo_25 : decode M_Md_undo.2.1 25 = .ok (.iconst 0, 1) := by decide +kernel
theorem d_Md_undo_26 : decode M_Md_undo.2.1 26 = .ok (.istore_n 1, 1) := by decide +kernel
theorem d_Md_undo_27 : decode M_Md_undo.2.1 27 = .ok (.iload_n 1, 1) := by decide +kernel
theorem d_Md_undo_28 : decode M_Md_undo.2.1 28 = .ok (.bipush 24, 2) := by decide +kernel
theorem d_Md_undo_30 : decode M_Md_undo.2.1 30 = .ok (.if_icmp .ge 29, 3) := by decide +kernel
theorem d_Md_undo_33 : decode M_Md_undo.2.1 33 = .ok (.aload_n 0, 1) := by decide +kernel
theorem d_Md_undo_34 : decode M_Md_undo.2.1 34 = .ok (.getfield 25, 3) := by decide +kernel
theorem d_Md_undo_37 : decode M_Md_undo.2.1 37 = .ok (.iload_n 1, 1) := by decide +kernel
theorem d_Md_undo_38 : decode M_Md_undo.2.1 38 = .ok (.aload_n 0, 1) := by decide +kernel
theorem d_Md_undo_39 : decode M_Md_undo.2.1 39 = .ok (.getfield 31, 3) := by decide +kernel
theorem d_Md_undo_42 : decode M_Md_undo.2.1 42 = .ok (.bipush 24, 2) := by decide +kernel
theorem d_Md_undo_44 : decode M_Md_undo.2.1 44 = .ok (.aload_n 0, 1) := by decide +kernel
theorem d_Md_undo_45 : decode M_Md_undo.2.1 45 = .ok (.getfield 119, 3) := by decide +kernel
theorem d_Md_undo_48 : decode M_Md_undo.2.1 48 = .ok (.imul, 1) := by decide +kernel
theorem d_Md_undo_49 : decode M_Md_undo.2.1 49 = .ok (.iload_n 1, 1) := by decide +kernel
theorem d_Md_undo_50 : decode M_Md_undo.2.1 50 = .ok (.iadd, 1) := by decide +kernel
theorem d_Md_undo_51 : decode M_Md_undo.2.1 51 = .ok (.iaload, 1) := by decide +kernel
theorem d_Md_undo_52 : decode M_Md_undo.2.1 52 = .ok (.iastore, 1) := by decide +kernel
theorem d_Md_undo_53 : decode M_Md_undo.2.1 53 = .ok (.iinc 1 1, 3) := by decide +kernel
theorem d_Md_undo_56 : decode M_Md_undo.2.1 56 = .ok (.goto (-29), 3) := by decide +kernel
theorem d_Md_undo_59 : decode M_Md_undo.2.1 59 = .ok (.aload_n 0, 1) := by decide +kernel
theorem d_Md_undo_60 : decode M_Md_undo.2.1 60 = .ok (.getfield 119, 3) := by decide +kernel
theorem d_Md_undo_63 : decode M_Md_undo.2.1 63 = .ok (.ireturn, 1) := by decide +kernel
theorem d_Md_begin_0 : decode M_Md_begin.2.1 0 = .ok (.iconst 0, 1) := by decide +kernel
theorem d_Md_begin_1 : decode M_Md_begin.2.1 1 = .ok (.istore_n 1, 1) := by decide +kernel
theorem d_Md_begin_2 : decode M_Md_begin.2.1 2 = .ok (.iload_n 1, 1) := by decide +kernel
theorem d_Md_begin_3 : decode M_Md_begin.2.1 3 = .ok (.bipush 24, 2) := by decide +kernel
theorem d_Md_begin_5 : decode M_Md_begin.2.1 5 = .ok (.if_icmp .ge 21, 3) := by decide +kernel
theorem d_Md_begin_8 : decode M_Md_begin.2.1 8 = .ok (.aload_n 0, 1) := by decide +kernel
theorem d_Md_begin_9 : decode M_Md_begin.2.1 9 = .ok (.getfield 28, 3) := by decide +kernel
theorem d_Md_begin_12 : decode M_Md_begin.2.1 12 = .ok (.iload_n 1, 1) := by decide +kernel
theorem d_Md_begin_13 : decode M_Md_begin.2.1 13 = .ok (.aload_n 0, 1) := by decide +kernel
theorem d_Md_begin_14 : decode M_Md_begin.2.1 14 = .ok (.getfield 25, 3) := by decide +kernel
theorem d_Md_begin_17 : decode M_Md_begin.2.1 17 = .ok (.iload_n 1, 1) := by decide +kernel
theorem d_Md_begin_18 : decode M_Md_begin.2.1 18 = .ok (.iaload, 1) := by decide +kernel
theorem d_Md_begin_19 : decode M_Md_begin.2.1 19 = .ok (.iastore, 1) := by decide +kernel
theorem d_Md_begin_20 : decode M_Md_begin.2.1 20 = .ok (.iinc 1 1, 3) := by decide +kernel
theorem d_Md_begin_23 : decode M_Md_begin.2.1 23 = .ok (.goto (-21), 3) := by decide +kernel
theorem d_Md_begin_26 : decode M_Md_begin.2.1 26 = .ok (.return_, 1) := by decide +kernel
theorem d_Md_power_0 : decode M_Md_power.2.1 0 = .ok (.iconst 1, 1) := by decide +kernel
theorem d_Md_power_1 : decode M_Md_power.2.1 1 = .ok (.istore_n 2, 1) := by decide +kernel
theorem d_Md_power_2 : decode M_Md_power.2.1 2 = .ok (.iconst 0, 1) := by decide +kernel
theorem d_Md_power_3 : decode M_Md_power.2.1 3 = .ok (.istore_n 3, 1) := by decide +kernel
theorem d_Md_power_4 : decode M_Md_power.2.1 4 = .ok (.iload_n 3, 1) := by decide +kernel
theorem d_Md_power_5 : decode M_Md_power.2.1 5 = .ok (.iload_n 1, 1) := by decide +kernel
theorem d_Md_power_6 : decode M_Md_power.2.1 6 = .ok (.if_icmp .ge 13, 3) := by decide +kernel
theorem d_Md_power_9 : decode M_Md_power.2.1 9 = .ok (.iload_n 2, 1) := by decide +kernel
theorem d_Md_power_10 : decode M_Md_power.2.1 10 = .ok (.iload_n 0, 1) := by decide +kernel
theorem d_Md_power_11 : decode M_Md_power.2.1 11 = .ok (.imul, 1) := by decide +kernel
theorem d_Md_power_12 : decode M_Md_power.2.1 12 = .ok (.istore_n 2, 1) := by decide +kernel
theorem d_Md_power_13 : decode M_Md_power.2.1 13 = .ok (.iinc 3 1, 3) := by decide +kernel
theorem d_Md_power_16 : decode M_Md_power.2.1 16 = .ok (.goto (-12), 3) := by decide +kernel
theorem d_Md_power_19 : decode M_Md_power.2.1 19 = .ok (.iload_n 2, 1) := by decide +kernel
theorem d_Md_power_20 : decode M_Md_power.2.1 20 = .ok (.ireturn, 1) := by decide +kernel
theorem d_Md_owesBy_0 : decode M_Md_owesBy.2.1 0 = .ok (.iload_n 2, 1) := by decide +kernel
theorem d_Md_owesBy_1 : decode M_Md_owesBy.2.1 1 = .ok (.i2l, 1) := by decide +kernel
theorem d_Md_owesBy_2 : decode M_Md_owesBy.2.1 2 = .ok (.lconst 0, 1) := by decide +kernel
theorem d_Md_owesBy_3 : decode M_Md_owesBy.2.1 3 = .ok (.ldc2_w 164, 3) := by decide +kernel
theorem d_Md_owesBy_6 : decode M_Md_owesBy.2.1 6 = .ok (.invokestatic 69, 3) := by decide +kernel
theorem d_Md_owesBy_9 : decode M_Md_owesBy.2.1 9 = .ok (.ifCond .ne 5, 3) := by decide +kernel
theorem d_Md_owesBy_12 : decode M_Md_owesBy.2.1 12 = .ok (.iconst 0, 1) := by decide +kernel
theorem d_Md_owesBy_13 : decode M_Md_owesBy.2.1 13 = .ok (.ireturn, 1) := by decide +kernel
theorem d_Md_owesBy_14 : decode M_Md_owesBy.2.1 14 = .ok (.aload_n 0, 1) := by decide +kernel
theorem d_Md_owesBy_15 : decode M_Md_owesBy.2.1 15 = .ok (.invokevirtual 180, 3) := by decide +kernel
theorem d_Md_owesBy_18 : decode M_Md_owesBy.2.1 18 = .ok (.aload_n 0, 1) := by decide +kernel
theorem d_Md_owesBy_19 : decode M_Md_owesBy.2.1 19 = .ok (.getfield 28, 3) := by decide +kernel
theorem d_Md_owesBy_22 : decode M_Md_owesBy.2.1 22 = .ok (.iconst 0, 1) := by decide +kernel
theorem d_Md_owesBy_23 : decode M_Md_owesBy.2.1 23 = .ok (.iload_n 1, 1) := by decide +kernel
theorem d_Md_owesBy_24 : decode M_Md_owesBy.2.1 24 = .ok (.iadd, 1) := by decide +kernel
theorem d_Md_owesBy_25 : decode M_Md_owesBy.2.1 25 = .ok (.iload_n 2, 1) := by decide +kernel
theorem d_Md_owesBy_26 : decode M_Md_owesBy.2.1 26 = .ok (.iastore, 1) := by decide +kernel
theorem d_Md_owesBy_27 : decode M_Md_owesBy.2.1 27 = .ok (.aload_n 0, 1) := by decide +kernel
theorem d_Md_owesBy_28 : decode M_Md_owesBy.2.1 28 = .ok (.aload_n 0, 1) := by decide +kernel
theorem d_Md_owesBy_29 : decode M_Md_owesBy.2.1 29 = .ok (.getfield 28, 3) := by decide +kernel
theorem d_Md_owesBy_32 : decode M_Md_owesBy.2.1 32 = .ok (.invokevirtual 148, 3) := by decide +kernel
theorem d_Md_owesBy_35 : decode M_Md_owesBy.2.1 35 = .ok (.pop, 1) := by decide +kernel
theorem d_Md_owesBy_36 : decode M_Md_owesBy.2.1 36 = .ok (.aload_n 0, 1) := by decide +kernel
theorem d_Md_owesBy_37 : decode M_Md_owesBy.2.1 37 = .ok (.getfield 53, 3) := by decide +kernel
theorem d_Md_owesBy_40 : decode M_Md_owesBy.2.1 40 = .ok (.iload_n 1, 1) := by decide +kernel
theorem d_Md_owesBy_41 : decode M_Md_owesBy.2.1 41 = .ok (.iaload, 1) := by decide +kernel
theorem d_Md_owesBy_42 : decode M_Md_owesBy.2.1 42 = .ok (.iload_n 3, 1) := by decide +kernel
theorem d_Md_owesBy_43 : decode M_Md_owesBy.2.1 43 = .ok (.if_icmp .gt 7, 3) := by decide +kernel
theorem d_Md_owesBy_46 : decode M_Md_owesBy.2.1 46 = .ok (.iconst 1, 1) := by decide +kernel
theorem d_Md_owesBy_47 : decode M_Md_owesBy.2.1 47 = .ok (.goto 4, 3) := by decide +kernel
theorem d_Md_owesBy_50 : decode M_Md_owesBy.2.1 50 = .ok (.iconst 0, 1) := by decide +kernel
theorem d_Md_owesBy_51 : decode M_Md_owesBy.2.1 51 = .ok (.ireturn, 1) := by decide +kernel
theorem d_Md_dim_0 : decode M_Md_dim.2.1 0 = .ok (.aload_n 0, 1) := by decide +kernel
theorem d_Md_dim_1 : decode M_Md_dim.2.1 1 = .ok (.iconst 0, 1) := by decide +kernel
theorem d_Md_dim_2 : decode M_Md_dim.2.1 2 = .ok (.putfield 62, 3) := by decide +kernel
theorem d_Md_dim_5 : decode M_Md_dim.2.1 5 = .ok (.aload_n 0, 1) := by decide +kernel
theorem d_Md_dim_6 : decode M_Md_dim.2.1 6 = .ok (.iload_n 1, 1) := by decide +kernel
theorem d_Md_dim_7 : decode M_Md_dim.2.1 7 = .ok (.invokevirtual 157, 3) := by decide +kernel
theorem d_Md_dim_10 : decode M_Md_dim.2.1 10 = .ok (.ifCond .eq 5, 3) := by decide +kernel
theorem d_Md_dim_13 : decode M_Md_dim.2.1 13 = .ok (.iconst (-1), 1) := by decide +kernel
theorem d_Md_dim_14 : decode M_Md_dim.2.1 14 = .ok (.ireturn, 1) := by decide +kernel
theorem d_Md_dim_15 : decode M_Md_dim.2.1 15 = .ok (.iload_n 2, 1) := by decide +kernel
theorem d_Md_dim_16 : decode M_Md_dim.2.1 16 = .ok (.i2l, 1) := by decide +kernel
theorem d_Md_dim_17 : decode M_Md_dim.2.1 17 = .ok (.lconst 0, 1) := by decide +kernel
theorem d_Md_dim_18 : decode M_Md_dim.2.1 18 = .ok (.ldc2_w 183, 3) := by decide +kernel
theorem d_Md_dim_21 : decode M_Md_dim.2.1 21 = .ok (.invokestatic 69, 3) := by decide +kernel
theorem d_Md_dim_24 : decode M_Md_dim.2.1 24 = .ok (.ifCond .ne 6, 3) := by decide +kernel
theorem d_Md_dim_27 : decode M_Md_dim.2.1 27 = .ok (.bipush (-2), 2) := by decide +kernel
theorem d_Md_dim_29 : decode M_Md_dim.2.1 29 = .ok (.ireturn, 1) := by decide +kernel
theorem d_Md_dim_30 : decode M_Md_dim.2.1 30 = .ok (.iconst 0, 1) := by decide +kernel
theorem d_Md_dim_31 : decode M_Md_dim.2.1 31 = .ok (.istore_n 3, 1) := by decide +kernel
theorem d_Md_dim_32 : decode M_Md_dim.2.1 32 = .ok (.iload_n 3, 1) := by decide +kernel
theorem d_Md_dim_33 : decode M_Md_dim.2.1 33 = .ok (.bipush 10, 2) := by decide +kernel
theorem d_Md_dim_35 : decode M_Md_dim.2.1 35 = .ok (.if_icmp .ge 54, 3) := by decide +kernel
theorem d_Md_dim_38 : decode M_Md_dim.2.1 38 = .ok (.aload_n 0, 1) := by decide +kernel
theorem d_Md_dim_39 : decode M_Md_dim.2.1 39 = .ok (.iload_n 1, 1) := by decide +kernel
theorem d_Md_dim_40 : decode M_Md_dim.2.1 40 = .ok (.aload_n 0, 1) := by decide +kernel
theorem d_Md_dim_41 : decode M_Md_dim.2.1 41 = .ok (.getfield 25, 3) := by decide +kernel
theorem d_Md_dim_44 : decode M_Md_dim.2.1 44 = .ok (.iconst 0, 1) := by decide +kernel
theorem d_Md_dim_45 : decode M_Md_dim.2.1 45 = .ok (.iload_n 1, 1) := by decide +kernel
theorem d_Md_dim_46 : decode M_Md_dim.2.1 46 = .ok (.iadd, 1) := by decide +kernel
theorem d_Md_dim_47 : decode M_Md_dim.2.1 47 = .ok (.iaload, 1) := by decide +kernel
theorem d_Md_dim_48 : decode M_Md_dim.2.1 48 = .ok (.iload_n 3, 1) := by decide +kernel
theorem d_Md_dim_49 : decode M_Md_dim.2.1 49 = .ok (.isub, 1) := by decide +kernel
theorem d_Md_dim_50 : decode M_Md_dim.2.1 50 = .ok (.iload_n 2, 1) := by decide +kernel
theorem d_Md_dim_51 : decode M_Md_dim.2.1 51 = .ok (.invokevirtual 185, 3) := by decide +kernel
theorem d_Md_dim_54 : decode M_Md_dim.2.1 54 = .ok (.ifCond .eq 5, 3) := by decide +kernel
theorem d_Md_dim_57 : decode M_Md_dim.2.1 57 = .ok (.iload_n 3, 1) := by decide +kernel
theorem d_Md_dim_58 : decode M_Md_dim.2.1 58 = .ok (.ireturn, 1) := by decide +kernel
theorem d_Md_dim_59 : decode M_Md_dim.2.1 59 = .ok (.aload_n 0, 1) := by decide +kernel
theorem d_Md_dim_60 : decode M_Md_dim.2.1 60 = .ok (.iload_n 1, 1) := by decide +kernel
theorem d_Md_dim_61 : decode M_Md_dim.2.1 61 = .ok (.aload_n 0, 1) := by decide +kernel
theorem d_Md_dim_62 : decode M_Md_dim.2.1 62 = .ok (.getfield 25, 3) := by decide +kernel
theorem d_Md_dim_65 : decode M_Md_dim.2.1 65 = .ok (.iconst 0, 1) := by decide +kernel
theorem d_Md_dim_66 : decode M_Md_dim.2.1 66 = .ok (.iload_n 1, 1) := by decide +kernel
theorem d_Md_dim_67 : decode M_Md_dim.2.1 67 = .ok (.iadd, 1) := by decide +kernel
theorem d_Md_dim_68 : decode M_Md_dim.2.1 68 = .ok (.iaload, 1) := by decide +kernel
theorem d_Md_dim_69 : decode M_Md_dim.2.1 69 = .ok (.iload_n 3, 1) := by decide +kernel
theorem d_Md_dim_70 : decode M_Md_dim.2.1 70 = .ok (.iadd, 1) := by decide +kernel
theorem d_Md_dim_71 : decode M_Md_dim.2.1 71 = .ok (.iload_n 2, 1) := by decide +kernel
theorem d_Md_dim_72 : decode M_Md_dim.2.1 72 = .ok (.invokevirtual 185, 3) := by decide +kernel
theorem d_Md_dim_75 : decode M_Md_dim.2.1 75 = .ok (.ifCond .eq 8, 3) := by decide +kernel
theorem d_Md_dim_78 : decode M_Md_dim.2.1 78 = .ok (.bipush 10, 2) := by decide +kernel
theorem d_Md_dim_80 : decode M_Md_dim.2.1 80 = .ok (.iload_n 3, 1) := by decide +kernel
theorem d_Md_dim_81 : decode M_Md_dim.2.1 81 = .ok (.iadd, 1) := by decide +kernel
theorem d_Md_dim_82 : decode M_Md_dim.2.1 82 = .ok (.ireturn, 1) := by decide +kernel
theorem d_Md_dim_83 : decode M_Md_dim.2.1 83 = .ok (.iinc 3 1, 3) := by decide +kernel
theorem d_Md_dim_86 : decode M_Md_dim.2.1 86 = .ok (.goto (-54), 3) := by decide +kernel
theorem d_Md_dim_89 : decode M_Md_dim.2.1 89 = .ok (.bipush (-9), 2) := by decide +kernel
theorem d_Md_dim_91 : decode M_Md_dim.2.1 91 = .ok (.ireturn, 1) := by decide +kernel
theorem d_Md_findCheap_0 : decode M_Md_findCheap.2.1 0 = .ok (.aload_n 0, 1) := by decide +kernel
theorem d_Md_findCheap_1 : decode M_Md_findCheap.2.1 1 = .ok (.bipush (-9), 2) := by decide +kernel
theorem d_Md_findCheap_3 : decode M_Md_findCheap.2.1 3 = .ok (.putfield 189, 3) := by decide +kernel
theorem d_Md_findCheap_6 : decode M_Md_findCheap.2.1 6 = .ok (.aload_n 0, 1) := by decide +kernel
theorem d_Md_findCheap_7 : decode M_Md_findCheap.2.1 7 = .ok (.bipush (-9), 2) := by decide +kernel
theorem d_Md_findCheap_9 : decode M_Md_findCheap.2.1 9 = .ok (.putfield 192, 3) := by decide +kernel
theorem d_Md_findCheap_12 : decode M_Md_findCheap.2.1 12 = .ok (.iconst 0, 1) := by decide +kernel
theorem d_Md_findCheap_13 : decode M_Md_findCheap.2.1 13 = .ok (.istore_n 1, 1) := by decide +kernel
theorem d_Md_findCheap_14 : decode M_Md_findCheap.2.1 14 = .ok (.iload_n 1, 1) := by decide +kernel
theorem d_Md_findCheap_15 : decode M_Md_findCheap.2.1 15 = .ok (.iconst 3, 1) := by decide +kernel
theorem d_Md_findCheap_16 : decode M_Md_findCheap.2.1 16 = .ok (.aload_n 0, 1) := by decide +kernel
theorem d_Md_findCheap_17 : decode M_Md_findCheap.2.1 17 = .ok (.getfield 66, 3) := by decide +kernel
theorem d_Md_findCheap_20 : decode M_Md_findCheap.2.1 20 = .ok (.invokestatic 195, 3) := by decide +kernel
theorem d_Md_findCheap_23 : decode M_Md_findCheap.2.1 23 = .ok (.if_icmp .ge 133, 3) := by decide +kernel
theorem d_Md_findCheap_26 : decode M_Md_findCheap.2.1 26 = .ok (.aload_n 0, 1) := by decide +kernel
theorem d_Md_findCheap_27 : decode M_Md_findCheap.2.1 27 = .ok (.getfield 66, 3) := by decide +kernel
theorem d_Md_findCheap_30 : decode M_Md_findCheap.2.1 30 = .ok (.ifCond .le 126, 3) := by decide +kernel
theorem d_Md_findCheap_33 : decode M_Md_findCheap.2.1 33 = .ok (.aload_n 0, 1) := by decide +kernel
theorem d_Md_findCheap_34 : decode M_Md_findCheap.2.1 34 = .ok (.invokevirtual 180, 3) := by decide +kernel
theorem d_Md_findCheap_37 : decode M_Md_findCheap.2.1 37 = .ok (.iconst 1, 1) := by decide +kernel
theorem d_Md_findCheap_38 : decode M_Md_findCheap.2.1 38 = .ok (.istore_n 2, 1) := by decide +kernel
theorem d_Md_findCheap_39 : decode M_Md_findCheap.2.1 39 = .ok (.iconst 0, 1) := by decide +kernel
theorem d_Md_findCheap_40 : decode M_Md_findCheap.2.1 40 = .ok (.istore_n 3, 1) := by decide +kernel
theorem d_Md_findCheap_41 : decode M_Md_findCheap.2.1 41 = .ok (.iload_n 3, 1) := by decide +kernel
theorem d_Md_findCheap_42 : decode M_Md_findCheap.2.1 42 = .ok (.aload_n 0, 1) := by decide +kernel
theorem d_Md_findCheap_43 : decode M_Md_findCheap.2.1 43 = .ok (.getfield 66, 3) := by decide +kernel
theorem d_Md_findCheap_46 : decode M_Md_findCheap.2.1 46 = .ok (.if_icmp .ge 49, 3) := by decide +kernel
theorem d_Md_findCheap_49 : decode M_Md_findCheap.2.1 49 = .ok (.aload_n 0, 1) := by decide +kernel
theorem d_Md_findCheap_50 : decode M_Md_findCheap.2.1 50 = .ok (.getfield 28, 3) := by decide +kernel
theorem d_Md_findCheap_53 : decode M_Md_findCheap.2.1 53 = .ok (.iconst 0, 1) := by decide +kernel
theorem d_Md_findCheap_54 : decode M_Md_findCheap.2.1 54 = .ok (.iload_n 3, 1) := by decide +kernel
theorem d_Md_findCheap_55 : decode M_Md_findCheap.2.1 55 = .ok (.iadd, 1) := by decide +kernel
theorem d_Md_findCheap_56 : decode M_Md_findCheap.2.1 56 = .ok (.iconst 3, 1) := by decide +kernel
theorem d_Md_findCheap_57 : decode M_Md_findCheap.2.1 57 = .ok (.iload_n 1, 1) := by decide +kernel
theorem d_Md_findCheap_58 : decode M_Md_findCheap.2.1 58 = .ok (.iconst 3, 1) := by decide +kernel
theorem d_Md_findCheap_59 : decode M_Md_findCheap.2.1 59 = .ok (.aload_n 0, 1) := by decide +kernel
theorem d_Md_findCheap_60 : decode M_Md_findCheap.2.1 60 = .ok (.getfield 66, 3) := by decide +kernel
theorem d_Md_findCheap_63 : decode M_Md_findCheap.2.1 63 = .ok (.iconst 1, 1) := by decide +kernel
theorem d_Md_findCheap_64 : decode M_Md_findCheap.2.1 64 = .ok (.isub, 1) := by decide +kernel
theorem d_Md_findCheap_65 : decode M_Md_findCheap.2.1 65 = .ok (.iload_n 3, 1) := by decide +kernel
theorem d_Md_findCheap_66 : decode M_Md_findCheap.2.1 66 = .ok (.isub, 1) := by decide +kernel
theorem d_Md_findCheap_67 : decode M_Md_findCheap.2.1 67 = .ok (.invokestatic 195, 3) := by decide +kernel
theorem d_Md_findCheap_70 : decode M_Md_findCheap.2.1 70 = .ok (.idiv, 1) := by decide +kernel
theorem d_Md_findCheap_71 : decode M_Md_findCheap.2.1 71 = .ok (.iconst 3, 1) := by decide +kernel
theorem d_Md_findCheap_72 : decode M_Md_findCheap.2.1 72 = .ok (.irem, 1) := by decide +kernel
theorem d_Md_findCheap_73 : decode M_Md_findCheap.2.1 73 = .ok (.imul, 1) := by decide +kernel
theorem d_Md_findCheap_74 : decode M_Md_findCheap.2.1 74 = .ok (.iastore, 1) := by decide +kernel
theorem d_Md_findCheap_75 : decode M_Md_findCheap.2.1 75 = .ok (.bipush 10, 2) := by decide +kernel
theorem d_Md_findCheap_77 : decode M_Md_findCheap.2.1 77 = .ok (.iload_n 2, 1) := by decide +kernel
theorem d_Md_findCheap_78 : decode M_Md_findCheap.2.1 78 = .ok (.imul, 1) := by decide +kernel
theorem d_Md_findCheap_79 : decode M_Md_findCheap.2.1 79 = .ok (.aload_n 0, 1) := by decide +kernel
theorem d_Md_findCheap_80 : decode M_Md_findCheap.2.1 80 = .ok (.getfield 28, 3) := by decide +kernel
theorem d_Md_findCheap_83 : decode M_Md_findCheap.2.1 83 = .ok (.iconst 0, 1) := by decide +kernel
theorem d_Md_findCheap_84 : decode M_Md_findCheap.2.1 84 = .ok (.iload_n 3, 1) := by decide +kernel
theorem d_Md_findCheap_85 : decode M_Md_findCheap.2.1 85 = .ok (.iadd, 1) := by decide +kernel
theorem d_Md_findCheap_86 : decode M_Md_findCheap.2.1 86 = .ok (.iaload, 1) := by decide +kernel
theorem d_Md_findCheap_87 : decode M_Md_findCheap.2.1 87 = .ok (.iadd, 1) := by decide +kernel
theorem d_Md_findCheap_88 : decode M_Md_findCheap.2.1 88 = .ok (.istore_n 2, 1) := by decide +kernel
theorem d_Md_findCheap_89 : decode M_Md_findCheap.2.1 89 = .ok (.iinc 3 1, 3) := by decide +kernel
theorem d_Md_findCheap_92 : decode M_Md_findCheap.2.1 92 = .ok (.goto (-51), 3) := by decide +kernel
theorem d_Md_findCheap_95 : decode M_Md_findCheap.2.1 95 = .ok (.aload_n 0, 1) := by decide +kernel
theorem d_Md_findCheap_96 : decode M_Md_findCheap.2.1 96 = .ok (.aload_n 0, 1) := by decide +kernel
theorem d_Md_findCheap_97 : decode M_Md_findCheap.2.1 97 = .ok (.getfield 28, 3) := by decide +kernel
theorem d_Md_findCheap_100 : decode M_Md_findCheap.2.1 100 = .ok (.invokevirtual 148, 3) := by decide +kernel
theorem d_Md_findCheap_103 : decode M_Md_findCheap.2.1 103 = .ok (.istore_n 3, 1) := by decide +kernel
theorem d_Md_findCheap_104 : decode M_Md_findCheap.2.1 104 = .ok (.aload_n 0, 1) := by decide +kernel
theorem d_Md_findCheap_105 : decode M_Md_findCheap.2.1 105 = .ok (.aload_n 0, 1) := by decide +kernel
theorem d_Md_findCheap_106 : decode M_Md_findCheap.2.1 106 = .ok (.getfield 28, 3) := by decide +kernel
theorem d_Md_findCheap_109 : decode M_Md_findCheap.2.1 109 = .ok (.invokevirtual 151, 3) := by decide +kernel
theorem d_Md_findCheap_112 : decode M_Md_findCheap.2.1 112 = .ok (.iconst 1, 1) := by decide +kernel
theorem d_Md_findCheap_113 : decode M_Md_findCheap.2.1 113 = .ok (.aload_n 0, 1) := by decide +kernel
theorem d_Md_findCheap_114 : decode M_Md_findCheap.2.1 114 = .ok (.getfield 66, 3) := by decide +kernel
theorem d_Md_findCheap_117 : decode M_Md_findCheap.2.1 117 = .ok (.ishl, 1) := by decide +kernel
theorem d_Md_findCheap_118 : decode M_Md_findCheap.2.1 118 = .ok (.iconst 1, 1) := by decide +kernel
theorem d_Md_findCheap_119 : decode M_Md_findCheap.2.1 119 = .ok (.isub, 1) := by decide +kernel
theorem d_Md_findCheap_120 : decode M_Md_findCheap.2.1 120 = .ok (.if_icmp .ne 30, 3) := by decide +kernel
theorem d_Md_findCheap_123 : decode M_Md_findCheap.2.1 123 = .ok (.aload_n 0, 1) := by decide +kernel
theorem d_Md_findCheap_124 : decode M_Md_findCheap.2.1 124 = .ok (.getfield 189, 3) := by decide +kernel
theorem d_Md_findCheap_127 : decode M_Md_findCheap.2.1 127 = .ok (.bipush (-9), 2) := by decide +kernel
theorem d_Md_findCheap_129 : decode M_Md_findCheap.2.1 129 = .ok (.if_icmp .eq 11, 3) := by decide +kernel
theorem d_Md_findCheap_132 : decode M_Md_findCheap.2.1 132 = .ok (.iload_n 3, 1) := by decide +kernel
theorem d_Md_findCheap_133 : decode M_Md_findCheap.2.1 133 = .ok (.aload_n 0, 1) := by decide +kernel
theorem d_Md_findCheap_134 : decode M_Md_findCheap.2.1 134 = .ok (.getfield 189, 3) := by decide +kernel
theorem d_Md_findCheap_137 : decode M_Md_findCheap.2.1 137 = .ok (.if_icmp .ge 13, 3) := by decide +kernel
theorem d_Md_findCheap_140 : decode M_Md_findCheap.2.1 140 = .ok (.aload_n 0, 1) := by decide +kernel
theorem d_Md_findCheap_141 : decode M_Md_findCheap.2.1 141 = .ok (.iload_n 3, 1) := by decide +kernel
theorem d_Md_findCheap_142 : decode M_Md_findCheap.2.1 142 = .ok (.putfield 189, 3) := by decide +kernel
theorem d_Md_findCheap_145 : decode M_Md_findCheap.2.1 145 = .ok (.aload_n 0, 1) := by decide +kernel
theorem d_Md_findCheap_146 : decode M_Md_findCheap.2.1 146 = .ok (.iload_n 2, 1) := by decide +kernel
theorem d_Md_findCheap_147 : decode M_Md_findCheap.2.1 147 = .ok (.putfield 192, 3) := by decide +kernel
theorem d_Md_findCheap_150 : decode M_Md_findCheap.2.1 150 = .ok (.iinc 1 1, 3) := by decide +kernel
theorem d_Md_findCheap_153 : decode M_Md_findCheap.2.1 153 = .ok (.goto (-139), 3) := by decide +kernel
theorem d_Md_findCheap_156 : decode M_Md_findCheap.2.1 156 = .ok (.return_, 1) := by decide +kernel
theorem d_Md_cheap_0 : decode M_Md_cheap.2.1 0 = .ok (.aload_n 0, 1) := by decide +kernel
theorem d_Md_cheap_1 : decode M_Md_cheap.2.1 1 = .ok (.iconst 0, 1) := by decide +kernel
theorem d_Md_cheap_2 : decode M_Md_cheap.2.1 2 = .ok (.putfield 62, 3) := by decide +kernel
theorem d_Md_cheap_5 : decode M_Md_cheap.2.1 5 = .ok (.aload_n 0, 1) := by decide +kernel
theorem d_Md_cheap_6 : decode M_Md_cheap.2.1 6 = .ok (.invokevirtual 198, 3) := by decide +kernel
theorem d_Md_cheap_9 : decode M_Md_cheap.2.1 9 = .ok (.iload_n 1, 1) := by decide +kernel
theorem d_Md_cheap_10 : decode M_Md_cheap.2.1 10 = .ok (.ifCond .eq 10, 3) := by decide +kernel
theorem d_Md_cheap_13 : decode M_Md_cheap.2.1 13 = .ok (.aload_n 0, 1) := by decide +kernel
theorem d_Md_cheap_14 : decode M_Md_cheap.2.1 14 = .ok (.getfield 192, 3) := by decide +kernel
theorem d_Md_cheap_17 : decode M_Md_cheap.2.1 17 = .ok (.goto 7, 3) := by decide +kernel
theorem d_Md_cheap_20 : decode M_Md_cheap.2.1 20 = .ok (.aload_n 0, 1) := by decide +kernel
theorem d_Md_cheap_21 : decode M_Md_cheap.2.1 21 = .ok (.getfield 189, 3) := by decide +kernel
theorem d_Md_cheap_24 : decode M_Md_cheap.2.1 24 = .ok (.ireturn, 1) := by decide +kernel
theorem d_Md_isFree_0 : decode M_Md_isFree.2.1 0 = .ok (.iconst 1, 1) := by decide +kernel
theorem d_Md_isFree_1 : decode M_Md_isFree.2.1 1 = .ok (.istore_n 2, 1) := by decide +kernel
theorem d_Md_isFree_2 : decode M_Md_isFree.2.1 2 = .ok (.iconst 0, 1) := by decide +kernel
theorem d_Md_isFree_3 : decode M_Md_isFree.2.1 3 = .ok (.istore_n 3, 1) := by decide +kernel
theorem d_Md_isFree_4 : decode M_Md_isFree.2.1 4 = .ok (.iload_n 3, 1) := by decide +kernel
theorem d_Md_isFree_5 : decode M_Md_isFree.2.1 5 = .ok (.aload_n 0, 1) := by decide +kernel
theorem d_Md_isFree_6 : decode M_Md_isFree.2.1 6 = .ok (.getfield 66, 3) := by decide +kernel
theorem d_Md_isFree_9 : decode M_Md_isFree.2.1 9 = .ok (.if_icmp .ge 32, 3) := by decide +kernel
theorem d_Md_isFree_12 : decode M_Md_isFree.2.1 12 = .ok (.iload_n 2, 1) := by decide +kernel
theorem d_Md_isFree_13 : decode M_Md_isFree.2.1 13 = .ok (.ifCond .eq 20, 3) := by decide +kernel
theorem d_Md_isFree_16 : decode M_Md_isFree.2.1 16 = .ok (.aload_n 0, 1) := by decide +kernel
theorem d_Md_isFree_17 : decode M_Md_isFree.2.1 17 = .ok (.getfield 25, 3) := by decide +kernel
theorem d_Md_isFree_20 : decode M_Md_isFree.2.1 20 = .ok (.bipush 19, 2) := by decide +kernel
theorem d_Md_isFree_22 : decode M_Md_isFree.2.1 22 = .ok (.iload_n 3, 1) := by decide +kernel
theorem d_Md_isFree_23 : decode M_Md_isFree.2.1 23 = .ok (.iadd, 1) := by decide +kernel
theorem d_Md_isFree_24 : decode M_Md_isFree.2.1 24 = .ok (.iaload, 1) := by decide +kernel
theorem d_Md_isFree_25 : decode M_Md_isFree.2.1 25 = .ok (.iload_n 1, 1) := by decide +kernel
theorem d_Md_isFree_26 : decode M_Md_isFree.2.1 26 = .ok (.if_icmp .eq 7, 3) := by decide +kernel
theorem d_Md_isFree_29 : decode M_Md_isFree.2.1 29 = .ok (.iconst 1, 1) := by decide +kernel
theorem d_Md_isFree_30 : decode M_Md_isFree.2.1 30 = .ok (.goto 4, 3) := by decide +kernel
theorem d_Md_isFree_33 : decode M_Md_isFree.2.1 33 = .ok (.iconst 0, 1) := by decide +kernel
theorem d_Md_isFree_34 : decode M_Md_isFree.2.1 34 = .ok (.istore_n 2, 1) := by decide +kernel
theorem d_Md_isFree_35 : decode M_Md_isFree.2.1 35 = .ok (.iinc 3 1, 3) := by decide +kernel
theorem d_Md_isFree_38 : decode M_Md_isFree.2.1 38 = .ok (.goto (-34), 3) := by decide +kernel
theorem d_Md_isFree_41 : decode M_Md_isFree.2.1 41 = .ok (.iload_n 2, 1) := by decide +kernel
theorem d_Md_isFree_42 : decode M_Md_isFree.2.1 42 = .ok (.ireturn, 1) := by decide +kernel
theorem d_Md_findMoving_0 : decode M_Md_findMoving.2.1 0 = .ok (.aload_n 0, 1) := by decide +kernel
theorem d_Md_findMoving_1 : decode M_Md_findMoving.2.1 1 = .ok (.bipush (-9), 2) := by decide +kernel
theorem d_Md_findMoving_3 : decode M_Md_findMoving.2.1 3 = .ok (.putfield 201, 3) := by decide +kernel
theorem d_Md_findMoving_6 : decode M_Md_findMoving.2.1 6 = .ok (.aload_n 0, 1) := by decide +kernel
theorem d_Md_findMoving_7 : decode M_Md_findMoving.2.1 7 = .ok (.bipush (-9), 2) := by decide +kernel
theorem d_Md_findMoving_9 : decode M_Md_findMoving.2.1 9 = .ok (.putfield 204, 3) := by decide +kernel
theorem d_Md_findMoving_12 : decode M_Md_findMoving.2.1 12 = .ok (.iconst 0, 1) := by decide +kernel
theorem d_Md_findMoving_13 : decode M_Md_findMoving.2.1 13 = .ok (.istore_n 1, 1) := by decide +kernel
theorem d_Md_findMoving_14 : decode M_Md_findMoving.2.1 14 = .ok (.iload_n 1, 1) := by decide +kernel
theorem d_Md_findMoving_15 : decode M_Md_findMoving.2.1 15 = .ok (.aload_n 0, 1) := by decide +kernel
theorem d_Md_findMoving_16 : decode M_Md_findMoving.2.1 16 = .ok (.getfield 66, 3) := by decide +kernel
theorem d_Md_findMoving_19 : decode M_Md_findMoving.2.1 19 = .ok (.if_icmp .ge 86, 3) := by decide +kernel
theorem d_Md_findMoving_22 : decode M_Md_findMoving.2.1 22 = .ok (.iconst 0, 1) := by decide +kernel
theorem d_Md_findMoving_23 : decode M_Md_findMoving.2.1 23 = .ok (.istore_n 2, 1) := by decide +kernel
theorem d_Md_findMoving_24 : decode M_Md_findMoving.2.1 24 = .ok (.iload_n 2, 1) := by decide +kernel
theorem d_Md_findMoving_25 : decode M_Md_findMoving.2.1 25 = .ok (.bipush 9, 2) := by decide +kernel
theorem d_Md_findMoving_27 : decode M_Md_findMoving.2.1 27 = .ok (.if_icmp .ge 72, 3) := by decide +kernel
theorem d_Md_findMoving_30 : decode M_Md_findMoving.2.1 30 = .ok (.aload_n 0, 1) := by decide +kernel
theorem d_Md_findMoving_31 : decode M_Md_findMoving.2.1 31 = .ok (.invokevirtual 180, 3) := by decide +kernel
theorem d_Md_findMoving_34 : decode M_Md_findMoving.2.1 34 = .ok (.aload_n 0, 1) := by decide +kernel
theorem d_Md_findMoving_35 : decode M_Md_findMoving.2.1 35 = .ok (.getfield 28, 3) := by decide +kernel
theorem d_Md_findMoving_38 : decode M_Md_findMoving.2.1 38 = .ok (.bipush 19, 2) := by decide +kernel
theorem d_Md_findMoving_40 : decode M_Md_findMoving.2.1 40 = .ok (.iload_n 1, 1) := by decide +kernel
theorem d_Md_findMoving_41 : decode M_Md_findMoving.2.1 41 = .ok (.iadd, 1) := by decide +kernel
theorem d_Md_findMoving_42 : decode M_Md_findMoving.2.1 42 = .ok (.iload_n 2, 1) := by decide +kernel
theorem d_Md_findMoving_43 : decode M_Md_findMoving.2.1 43 = .ok (.iastore, 1) := by decide +kernel
theorem d_Md_findMoving_44 : decode M_Md_findMoving.2.1 44 = .ok (.aload_n 0, 1) := by decide +kernel
theorem d_Md_findMoving_45 : decode M_Md_findMoving.2.1 45 = .ok (.aload_n 0, 1) := by decide +kernel
theorem d_Md_findMoving_46 : decode M_Md_findMoving.2.1 46 = .ok (.getfield 28, 3) := by decide +kernel
theorem d_Md_findMoving_49 : decode M_Md_findMoving.2.1 49 = .ok (.invokevirtual 148, 3) := by decide +kernel
theorem d_Md_findMoving_52 : decode M_Md_findMoving.2.1 52 = .ok (.istore_n 3, 1) := by decide +kernel
theorem d_Md_findMoving_53 : decode M_Md_findMoving.2.1 53 = .ok (.aload_n 0, 1) := by decide +kernel
theorem d_Md_findMoving_54 : decode M_Md_findMoving.2.1 54 = .ok (.iload_n 2, 1) := by decide +kernel
theorem d_Md_findMoving_55 : decode M_Md_findMoving.2.1 55 = .ok (.invokevirtual 207, 3) := by decide +kernel
theorem d_Md_findMoving_58 : decode M_Md_findMoving.2.1 58 = .ok (.ifCond .eq 35, 3) := by decide +kernel
theorem d_Md_findMoving_61 : decode M_Md_findMoving.2.1 61 = .ok (.aload_n 0, 1) := by decide +kernel
theorem d_Md_findMoving_62 : decode M_Md_findMoving.2.1 62 = .ok (.getfield 204, 3) := by decide +kernel
theorem d_Md_findMoving_65 : decode M_Md_findMoving.2.1 65 = .ok (.bipush (-9), 2) := by decide +kernel
theorem d_Md_findMoving_67 : decode M_Md_findMoving.2.1 67 = .ok (.if_icmp .eq 11, 3) := by decide +kernel
theorem d_Md_findMoving_70 : decode M_Md_findMoving.2.1 70 = .ok (.iload_n 3, 1) := by decide +kernel
theorem d_Md_findMoving_71 : decode M_Md_findMoving.2.1 71 = .ok (.aload_n 0, 1) := by decide +kernel
theorem d_Md_findMoving_72 : decode M_Md_findMoving.2.1 72 = .ok (.getfield 204, 3) := by decide +kernel
theorem d_Md_findMoving_75 : decode M_Md_findMoving.2.1 75 = .ok (.if_icmp .ge 18, 3) := by decide +kernel
theorem d_Md_findMoving_78 : decode M_Md_findMoving.2.1 78 = .ok (.aload_n 0, 1) := by decide +kernel
theorem d_Md_findMoving_79 : decode M_Md_findMoving.2.1 79 = .ok (.bipush 10, 2) := by decide +kernel
theorem d_Md_findMoving_81 : decode M_Md_findMoving.2.1 81 = .ok (.iload_n 1, 1) := by decide +kernel
theorem d_Md_findMoving_82 : decode M_Md_findMoving.2.1 82 = .ok (.imul, 1) := by decide +kernel
theorem d_Md_findMoving_83 : decode M_Md_findMoving.2.1 83 = .ok (.iload_n 2, 1) := by decide +kernel
theorem d_Md_findMoving_84 : decode M_Md_findMoving.2.1 84 = .ok (.iadd, 1) := by decide +kernel
theorem d_Md_findMoving_85 : decode M_Md_findMoving.2.1 85 = .ok (.putfield 201, 3) := by decide +kernel
theorem d_Md_findMoving_88 : decode M_Md_findMoving.2.1 88 = .ok (.aload_n 0, 1) := by decide +kernel
theorem d_Md_findMoving_89 : decode M_Md_findMoving.2.1 89 = .ok (.iload_n 3, 1) := by decide +kernel
theorem d_Md_findMoving_90 : decode M_Md_findMoving.2.1 90 = .ok (.putfield 204, 3) := by decide +kernel
theorem d_Md_findMoving_93 : decode M_Md_findMoving.2.1 93 = .ok (.iinc 2 1, 3) := by decide +kernel
theorem d_Md_findMoving_96 : decode M_Md_findMoving.2.1 96 = .ok (.goto (-72), 3) := by decide +kernel
theorem d_Md_findMoving_99 : decode M_Md_findMoving.2.1 99 = .ok (.iinc 1 1, 3) := by decide +kernel
theorem d_Md_findMoving_102 : decode M_Md_findMoving.2.1 102 = .ok (.goto (-88), 3) := by decide +kernel
theorem d_Md_findMoving_105 : decode M_Md_findMoving.2.1 105 = .ok (.return_, 1) := by decide +kernel
theorem d_Md_moving_0 : decode M_Md_moving.2.1 0 = .ok (.aload_n 0, 1) := by decide +kernel
theorem d_Md_moving_1 : decode M_Md_moving.2.1 1 = .ok (.iconst 0, 1) := by decide +kernel
theorem d_Md_moving_2 : decode M_Md_moving.2.1 2 = .ok (.putfield 62, 3) := by decide +kernel
theorem d_Md_moving_5 : decode M_Md_moving.2.1 5 = .ok (.iload_n 1, 1) := by decide +kernel
theorem d_Md_moving_6 : decode M_Md_moving.2.1 6 = .ok (.i2l, 1) := by decide +kernel
theorem d_Md_moving_7 : decode M_Md_moving.2.1 7 = .ok (.lconst 0, 1) := by decide +kernel
theorem d_Md_moving_8 : decode M_Md_moving.2.1 8 = .ok (.lconst 1, 1) := by decide +kernel
theorem d_Md_moving_9 : decode M_Md_moving.2.1 9 = .ok (.invokestatic 69, 3) := by decide +kernel
theorem d_Md_moving_12 : decode M_Md_moving.2.1 12 = .ok (.ifCond .ne 6, 3) := by decide +kernel
theorem d_Md_moving_15 : decode M_Md_moving.2.1 15 = .ok (.bipush (-2), 2) := by decide +kernel
theorem d_Md_moving_17 : decode M_Md_moving.2.1 17 = .ok (.ireturn, 1) := by decide +kernel
theorem d_Md_moving_18 : decode M_Md_moving.2.1 18 = .ok (.aload_n 0, 1) := by decide +kernel
theorem d_Md_moving_19 : decode M_Md_moving.2.1 19 = .ok (.invokevirtual 210, 3) := by decide +kernel
theorem d_Md_moving_22 : decode M_Md_moving.2.1 22 = .ok (.iload_n 1, 1) := by decide +kernel
theorem d_Md_moving_23 : decode M_Md_moving.2.1 23 = .ok (.ifCond .ne 10, 3) := by decide +kernel
theorem d_Md_moving_26 : decode M_Md_moving.2.1 26 = .ok (.aload_n 0, 1) := by decide +kernel
theorem d_Md_moving_27 : decode M_Md_moving.2.1 27 = .ok (.getfield 201, 3) := by decide +kernel
theorem d_Md_moving_30 : decode M_Md_moving.2.1 30 = .ok (.goto 7, 3) := by decide +kernel
theorem d_Md_moving_33 : decode M_Md_moving.2.1 33 = .ok (.aload_n 0, 1) := by decide +kernel
theorem d_Md_moving_34 : decode M_Md_moving.2.1 34 = .ok (.getfield 204, 3) := by decide +kernel
theorem d_Md_moving_37 : decode M_Md_moving.2.1 37 = .ok (.ireturn, 1) := by decide +kernel
theorem d_Md_does_0 : decode M_Md_does.2.1 0 = .ok (.iload_n 1, 1) := by decide +kernel
theorem d_Md_does_1 : decode M_Md_does.2.1 1 = .ok (.bipush 10, 2) := by decide +kernel
theorem d_Md_does_3 : decode M_Md_does.2.1 3 = .ok (.idiv, 1) := by decide +kernel
theorem d_Md_does_4 : decode M_Md_does.2.1 4 = .ok (.istore_n 2, 1) := by decide +kernel
theorem d_Md_does_5 : decode M_Md_does.2.1 5 = .ok (.iload_n 1, 1) := by decide +kernel
theorem d_Md_does_6 : decode M_Md_does.2.1 6 = .ok (.bipush 10, 2) := by decide +kernel
theorem d_Md_does_8 : decode M_Md_does.2.1 8 = .ok (.irem, 1) := by decide +kernel
theorem d_Md_does_9 : decode M_Md_does.2.1 9 = .ok (.istore_n 3, 1) := by decide +kernel
theorem d_Md_does_10 : decode M_Md_does.2.1 10 = .ok (.iload_n 1, 1) := by decide +kernel
theorem d_Md_does_11 : decode M_Md_does.2.1 11 = .ok (.ifCond .ne 14, 3) := by decide +kernel
theorem d_Md_does_14 : decode M_Md_does.2.1 14 = .ok (.aload_n 0, 1) := by decide +kernel
theorem d_Md_does_15 : decode M_Md_does.2.1 15 = .ok (.aload_n 0, 1) := by decide +kernel
theorem d_Md_does_16 : decode M_Md_does.2.1 16 = .ok (.getfield 28, 3) := by decide +kernel
theorem d_Md_does_19 : decode M_Md_does.2.1 19 = .ok (.invokevirtual 177, 3) := by decide +kernel
theorem d_Md_does_22 : decode M_Md_does.2.1 22 = .ok (.pop, 1) := by decide +kernel
theorem d_Md_does_23 : decode M_Md_does.2.1 23 = .ok (.iconst 1, 1) := by decide +kernel
theorem d_Md_does_24 : decode M_Md_does.2.1 24 = .ok (.ireturn, 1) := by decide +kernel
theorem d_Md_does_25 : decode M_Md_does.2.1 25 = .ok (.iload_n 2, 1) := by decide +kernel
theorem d_Md_does_26 : decode M_Md_does.2.1 26 = .ok (.i2l, 1) := by decide +kernel
theorem d_Md_does_27 : decode M_Md_does.2.1 27 = .ok (.lconst 1, 1) := by decide +kernel
theorem d_Md_does_28 : decode M_Md_does.2.1 28 = .ok (.ldc2_w 172, 3) := by decide +kernel
theorem d_Md_does_31 : decode M_Md_does.2.1 31 = .ok (.invokestatic 69, 3) := by decide +kernel
theorem d_Md_does_34 : decode M_Md_does.2.1 34 = .ok (.ifCond .eq 73, 3) := by decide +kernel
theorem d_Md_does_37 : decode M_Md_does.2.1 37 = .ok (.iload_n 2, 1) := by decide +kernel
theorem d_Md_does_38 : decode M_Md_does.2.1 38 = .ok (.iconst 1, 1) := by decide +kernel
theorem d_Md_does_39 : decode M_Md_does.2.1 39 = .ok (.if_icmp .ne 7, 3) := by decide +kernel
theorem d_Md_does_42 : decode M_Md_does.2.1 42 = .ok (.iconst 1, 1) := by decide +kernel
theorem d_Md_does_43 : decode M_Md_does.2.1 43 = .ok (.goto 4, 3) := by decide +kernel
theorem d_Md_does_46 : decode M_Md_does.2.1 46 = .ok (.iconst (-1), 1) := by decide +kernel
theorem d_Md_does_47 : decode M_Md_does.2.1 47 = .ok (.istore 4, 2) := by decide +kernel
theorem d_Md_does_49 : decode M_Md_does.2.1 49 = .ok (.aload_n 0, 1) := by decide +kernel
theorem d_Md_does_50 : decode M_Md_does.2.1 50 = .ok (.iload_n 3, 1) := by decide +kernel
theorem d_Md_does_51 : decode M_Md_does.2.1 51 = .ok (.invokevirtual 157, 3) := by decide +kernel
theorem d_Md_does_54 : decode M_Md_does.2.1 54 = .ok (.ifCond .ne 29, 3) := by decide +kernel
theorem d_Md_does_57 : decode M_Md_does.2.1 57 = .ok (.aload_n 0, 1) := by decide +kernel
theorem d_Md_does_58 : decode M_Md_does.2.1 58 = .ok (.getfield 28, 3) := by decide +kernel
theorem d_Md_does_61 : decode M_Md_does.2.1 61 = .ok (.iconst 0, 1) := by decide +kernel
theorem d_Md_does_62 : decode M_Md_does.2.1 62 = .ok (.iload_n 3, 1) := by decide +kernel
theorem d_Md_does_63 : decode M_Md_does.2.1 63 = .ok (.iadd, 1) := by decide +kernel
theorem d_Md_does_64 : decode M_Md_does.2.1 64 = .ok (.iaload, 1) := by decide +kernel
theorem d_Md_does_65 : decode M_Md_does.2.1 65 = .ok (.iload 4, 2) := by decide +kernel
theorem d_Md_does_67 : decode M_Md_does.2.1 67 = .ok (.iadd, 1) := by decide +kernel
theorem d_Md_does_68 : decode M_Md_does.2.1 68 = .ok (.i2l, 1) := by decide +kernel
theorem d_Md_does_69 : decode M_Md_does.2.1 69 = .ok (.lconst 0, 1) := by decide +kernel
theorem d_Md_does_70 : decode M_Md_does.2.1 70 = .ok (.ldc2_w 164, 3) := by decide +kernel
theorem d_Md_does_73 : decode M_Md_does.2.1 73 = .ok (.invokestatic 69, 3) := by decide +kernel
theorem d_Md_does_76 : decode M_Md_does.2.1 76 = .ok (.ifCond .eq 7, 3) := by decide +kernel
theorem d_Md_does_79 : decode M_Md_does.2.1 79 = .ok (.iconst 1, 1) := by decide +kernel
theorem d_Md_does_80 : decode M_Md_does.2.1 80 = .ok (.goto 4, 3) := by decide +kernel
theorem d_Md_does_83 : decode M_Md_does.2.1 83 = .ok (.iconst 0, 1) := by decide +kernel
theorem d_Md_does_84 : decode M_Md_does.2.1 84 = .ok (.istore 5, 2) := by decide +kernel
theorem d_Md_does_86 : decode M_Md_does.2.1 86 = .ok (.iload 5, 2) := by decide +kernel
theorem d_Md_does_88 : decode M_Md_does.2.1 88 = .ok (.ifCond .eq 16, 3) := by decide +kernel
theorem d_Md_does_91 : decode M_Md_does.2.1 91 = .ok (.aload_n 0, 1) := by decide +kernel
theorem d_Md_does_92 : decode M_Md_does.2.1 92 = .ok (.getfield 28, 3) := by decide +kernel
theorem d_Md_does_95 : decode M_Md_does.2.1 95 = .ok (.iconst 0, 1) := by decide +kernel
theorem d_Md_does_96 : decode M_Md_does.2.1 96 = .ok (.iload_n 3, 1) := by decide +kernel
theorem d_Md_does_97 : decode M_Md_does.2.1 97 = .ok (.iadd, 1) := by decide +kernel
theorem d_Md_does_98 : decode M_Md_does.2.1 98 = .ok (.dup2, 1) := by decide +kernel
theorem d_Md_does_99 : decode M_Md_does.2.1 99 = .ok (.iaload, 1) := by decide +kernel
theorem d_Md_does_100 : decode M_Md_does.2.1 100 = .ok (.iload 4, 2) := by decide +kernel
theorem d_Md_does_102 : decode M_Md_does.2.1 102 = .ok (.iadd, 1) := by decide +kernel
theorem d_Md_does_103 : decode M_Md_does.2.1 103 = .ok (.iastore, 1) := by decide +kernel
theorem d_Md_does_104 : decode M_Md_does.2.1 104 = .ok (.iload 5, 2) := by decide +kernel
theorem d_Md_does_106 : decode M_Md_does.2.1 106 = .ok (.ireturn, 1) := by decide +kernel
theorem d_Md_does_107 : decode M_Md_does.2.1 107 = .ok (.iload_n 2, 1) := by decide +kernel
theorem d_Md_does_108 : decode M_Md_does.2.1 108 = .ok (.iconst 3, 1) := by decide +kernel
theorem d_Md_does_109 : decode M_Md_does.2.1 109 = .ok (.if_icmp .ne 52, 3) := by decide +kernel
theorem d_Md_does_112 : decode M_Md_does.2.1 112 = .ok (.iload_n 3, 1) := by decide +kernel
theorem d_Md_does_113 : decode M_Md_does.2.1 113 = .ok (.iconst 3, 1) := by decide +kernel
theorem d_Md_does_114 : decode M_Md_does.2.1 114 = .ok (.if_icmp .ge 18, 3) := by decide +kernel
theorem d_Md_does_117 : decode M_Md_does.2.1 117 = .ok (.aload_n 0, 1) := by decide +kernel
theorem d_Md_does_118 : decode M_Md_does.2.1 118 = .ok (.getfield 28, 3) := by decide +kernel
theorem d_Md_does_121 : decode M_Md_does.2.1 121 = .ok (.bipush 16, 2) := by decide +kernel
theorem d_Md_does_123 : decode M_Md_does.2.1 123 = .ok (.iaload, 1) := by decide +kernel
theorem d_Md_does_124 : decode M_Md_does.2.1 124 = .ok (.iload_n 3, 1) := by decide +kernel
theorem d_Md_does_125 : decode M_Md_does.2.1 125 = .ok (.if_icmp .eq 7, 3) := by decide +kernel
theorem d_Md_does_128 : decode M_Md_does.2.1 128 = .ok (.iconst 1, 1) := by decide +kernel
theorem d_Md_does_129 : decode M_Md_does.2.1 129 = .ok (.goto 4, 3) := by decide +kernel
theorem d_Md_does_132 : decode M_Md_does.2.1 132 = .ok (.iconst 0, 1) := by decide +kernel
theorem d_Md_does_133 : decode M_Md_does.2.1 133 = .ok (.istore 4, 2) := by decide +kernel
theorem d_Md_does_135 : decode M_Md_does.2.1 135 = .ok (.aload_n 0, 1) := by decide +kernel
theorem d_Md_does_136 : decode M_Md_does.2.1 136 = .ok (.getfield 28, 3) := by decide +kernel
theorem d_Md_does_139 : decode M_Md_does.2.1 139 = .ok (.bipush 16, 2) := by decide +kernel
theorem d_Md_does_141 : decode M_Md_does.2.1 141 = .ok (.iload 4, 2) := by decide +kernel
theorem d_Md_does_143 : decode M_Md_does.2.1 143 = .ok (.ifCond .eq 7, 3) := by decide +kernel
theorem d_Md_does_146 : decode M_Md_does.2.1 146 = .ok (.iload_n 3, 1) := by decide +kernel
theorem d_Md_does_147 : decode M_Md_does.2.1 147 = .ok (.goto 10, 3) := by decide +kernel
theorem d_Md_does_150 : decode M_Md_does.2.1 150 = .ok (.aload_n 0, 1) := by decide +kernel
theorem d_Md_does_151 : decode M_Md_does.2.1 151 = .ok (.getfield 28, 3) := by decide +kernel
theorem d_Md_does_154 : decode M_Md_does.2.1 154 = .ok (.bipush 16, 2) := by decide +kernel
theorem d_Md_does_156 : decode M_Md_does.2.1 156 = .ok (.iaload, 1) := by decide +kernel
theorem d_Md_does_157 : decode M_Md_does.2.1 157 = .ok (.iastore, 1) := by decide +kernel
theorem d_Md_does_158 : decode M_Md_does.2.1 158 = .ok (.iload 4, 2) := by decide +kernel
theorem d_Md_does_160 : decode M_Md_does.2.1 160 = .ok (.ireturn, 1) := by decide +kernel
theorem d_Md_does_161 : decode M_Md_does.2.1 161 = .ok (.iload_n 2, 1) := by decide +kernel
theorem d_Md_does_162 : decode M_Md_does.2.1 162 = .ok (.iconst 4, 1) := by decide +kernel
theorem d_Md_does_163 : decode M_Md_does.2.1 163 = .ok (.if_icmp .ne 18, 3) := by decide +kernel
theorem d_Md_does_166 : decode M_Md_does.2.1 166 = .ok (.aload_n 0, 1) := by decide +kernel
theorem d_Md_does_167 : decode M_Md_does.2.1 167 = .ok (.getfield 28, 3) := by decide +kernel
theorem d_Md_does_170 : decode M_Md_does.2.1 170 = .ok (.bipush 17, 2) := by decide +kernel
theorem d_Md_does_172 : decode M_Md_does.2.1 172 = .ok (.iaload, 1) := by decide +kernel
theorem d_Md_does_173 : decode M_Md_does.2.1 173 = .ok (.iload_n 3, 1) := by decide +kernel
theorem d_Md_does_174 : decode M_Md_does.2.1 174 = .ok (.if_icmp .eq 7, 3) := by decide +kernel
theorem d_Md_does_177 : decode M_Md_does.2.1 177 = .ok (.iconst 1, 1) := by decide +kernel
theorem d_Md_does_178 : decode M_Md_does.2.1 178 = .ok (.goto 4, 3) := by decide +kernel
theorem d_Md_does_181 : decode M_Md_does.2.1 181 = .ok (.iconst 0, 1) := by decide +kernel
theorem d_Md_does_182 : decode M_Md_does.2.1 182 = .ok (.istore 4, 2) := by decide +kernel
theorem d_Md_does_184 : decode M_Md_does.2.1 184 = .ok (.aload_n 0, 1) := by decide +kernel
theorem d_Md_does_185 : decode M_Md_does.2.1 185 = .ok (.getfield 28, 3) := by decide +kernel
theorem d_Md_does_188 : decode M_Md_does.2.1 188 = .ok (.bipush 17, 2) := by decide +kernel
theorem d_Md_does_190 : decode M_Md_does.2.1 190 = .ok (.iload 4, 2) := by decide +kernel
theorem d_Md_does_192 : decode M_Md_does.2.1 192 = .ok (.ifCond .eq 7, 3) := by decide +kernel
theorem d_Md_does_195 : decode M_Md_does.2.1 195 = .ok (.iload_n 3, 1) := by decide +kernel
theorem d_Md_does_196 : decode M_Md_does.2.1 196 = .ok (.goto 10, 3) := by decide +kernel
theorem d_Md_does_199 : decode M_Md_does.2.1 199 = .ok (.aload_n 0, 1) := by decide +kernel
theorem d_Md_does_200 : decode M_Md_does.2.1 200 = .ok (.getfield 28, 3) := by decide +kernel
theorem d_Md_does_203 : decode M_Md_does.2.1 203 = .ok (.bipush 17, 2) := by decide +kernel
theorem d_Md_does_205 : decode M_Md_does.2.1 205 = .ok (.iaload, 1) := by decide +kernel
theorem d_Md_does_206 : decode M_Md_does.2.1 206 = .ok (.iastore, 1) := by decide +kernel
theorem d_Md_does_207 : decode M_Md_does.2.1 207 = .ok (.iload 4, 2) := by decide +kernel
theorem d_Md_does_209 : decode M_Md_does.2.1 209 = .ok (.ireturn, 1) := by decide +kernel
theorem d_Md_judge_0 : decode M_Md_judge.2.1 0 = .ok (.aload_n 0, 1) := by decide +kernel
theorem d_Md_judge_1 : decode M_Md_judge.2.1 1 = .ok (.iconst 0, 1) := by decide +kernel
theorem d_Md_judge_2 : decode M_Md_judge.2.1 2 = .ok (.putfield 62, 3) := by decide +kernel
theorem d_Md_judge_5 : decode M_Md_judge.2.1 5 = .ok (.iload_n 1, 1) := by decide +kernel
theorem d_Md_judge_6 : decode M_Md_judge.2.1 6 = .ok (.i2l, 1) := by decide +kernel
theorem d_Md_judge_7 : decode M_Md_judge.2.1 7 = .ok (.lconst 1, 1) := by decide +kernel
theorem d_Md_judge_8 : decode M_Md_judge.2.1 8 = .ok (.ldc2_w 213, 3) := by decide +kernel
theorem d_Md_judge_11 : decode M_Md_judge.2.1 11 = .ok (.invokestatic 69, 3) := by decide +kernel
theorem d_Md_judge_14 : decode M_Md_judge.2.1 14 = .ok (.ifCond .eq 21, 3) := by decide +kernel
theorem d_Md_judge_17 : decode M_Md_judge.2.1 17 = .ok (.iload_n 2, 1) := by decide +kernel
theorem d_Md_judge_18 : decode M_Md_judge.2.1 18 = .ok (.i2l, 1) := by decide +kernel
theorem d_Md_judge_19 : decode M_Md_judge.2.1 19 = .ok (.lconst 0, 1) := by decide +kernel
theorem d_Md_judge_20 : decode M_Md_judge.2.1 20 = .ok (.bipush 100, 2) := by decide +kernel
theorem d_Md_judge_22 : decode M_Md_judge.2.1 22 = .ok (.iload_n 1, 1) := by decide +kernel
theorem d_Md_judge_23 : decode M_Md_judge.2.1 23 = .ok (.invokestatic 195, 3) := by decide +kernel
theorem d_Md_judge_26 : decode M_Md_judge.2.1 26 = .ok (.iconst 1, 1) := by decide +kernel
theorem d_Md_judge_27 : decode M_Md_judge.2.1 27 = .ok (.isub, 1) := by decide +kernel
theorem d_Md_judge_28 : decode M_Md_judge.2.1 28 = .ok (.i2l, 1) := by decide +kernel
theorem d_Md_judge_29 : decode M_Md_judge.2.1 29 = .ok (.invokestatic 69, 3) := by decide +kernel
theorem d_Md_judge_32 : decode M_Md_judge.2.1 32 = .ok (.ifCond .ne 6, 3) := by decide +kernel
theorem d_Md_judge_35 : decode M_Md_judge.2.1 35 = .ok (.bipush (-2), 2) := by decide +kernel
theorem d_Md_judge_37 : decode M_Md_judge.2.1 37 = .ok (.ireturn, 1) := by decide +kernel
theorem d_Md_judge_38 : decode M_Md_judge.2.1 38 = .ok (.aload_n 0, 1) := by decide +kernel
theorem d_Md_judge_39 : decode M_Md_judge.2.1 39 = .ok (.invokevirtual 180, 3) := by decide +kernel
theorem d_Md_judge_42 : decode M_Md_judge.2.1 42 = .ok (.iconst 0, 1) := by decide +kernel
theorem d_Md_judge_43 : decode M_Md_judge.2.1 43 = .ok (.istore_n 3, 1) := by decide +kernel
theorem d_Md_judge_44 : decode M_Md_judge.2.1 44 = .ok (.iload_n 3, 1) := by decide +kernel
theorem d_Md_judge_45 : decode M_Md_judge.2.1 45 = .ok (.iload_n 1, 1) := by decide +kernel
theorem d_Md_judge_46 : decode M_Md_judge.2.1 46 = .ok (.if_icmp .ge 33, 3) := by decide +kernel
theorem d_Md_judge_49 : decode M_Md_judge.2.1 49 = .ok (.aload_n 0, 1) := by decide +kernel
theorem d_Md_judge_50 : decode M_Md_judge.2.1 50 = .ok (.iload_n 2, 1) := by decide +kernel
theorem d_Md_judge_51 : decode M_Md_judge.2.1 51 = .ok (.bipush 100, 2) := by decide +kernel
theorem d_Md_judge_53 : decode M_Md_judge.2.1 53 = .ok (.iload_n 1, 1) := by decide +kernel
theorem d_Md_judge_54 : decode M_Md_judge.2.1 54 = .ok (.iconst 1, 1) := by decide +kernel
theorem d_Md_judge_55 : decode M_Md_judge.2.1 55 = .ok (.isub, 1) := by decide +kernel
theorem d_Md_judge_56 : decode M_Md_judge.2.1 56 = .ok (.iload_n 3, 1) := by decide +kernel
theorem d_Md_judge_57 : decode M_Md_judge.2.1 57 = .ok (.isub, 1) := by decide +kernel
theorem d_Md_judge_58 : decode M_Md_judge.2.1 58 = .ok (.invokestatic 195, 3) := by decide +kernel
theorem d_Md_judge_61 : decode M_Md_judge.2.1 61 = .ok (.idiv, 1) := by decide +kernel
theorem d_Md_judge_62 : decode M_Md_judge.2.1 62 = .ok (.bipush 100, 2) := by decide +kernel
theorem d_Md_judge_64 : decode M_Md_judge.2.1 64 = .ok (.irem, 1) := by decide +kernel
theorem d_Md_judge_65 : decode M_Md_judge.2.1 65 = .ok (.invokevirtual 215, 3) := by decide +kernel
theorem d_Md_judge_68 : decode M_Md_judge.2.1 68 = .ok (.ifCond .ne 5, 3) := by decide +kernel
theorem d_Md_judge_71 : decode M_Md_judge.2.1 71 = .ok (.iload_n 3, 1) := by decide +kernel
theorem d_Md_judge_72 : decode M_Md_judge.2.1 72 = .ok (.ireturn, 1) := by decide +kernel
theorem d_Md_judge_73 : decode M_Md_judge.2.1 73 = .ok (.iinc 3 1, 3) := by decide +kernel
theorem d_Md_judge_76 : decode M_Md_judge.2.1 76 = .ok (.goto (-32), 3) := by decide +kernel
theorem d_Md_judge_79 : decode M_Md_judge.2.1 79 = .ok (.bipush (-9), 2) := by decide +kernel
theorem d_Md_judge_81 : decode M_Md_judge.2.1 81 = .ok (.ireturn, 1) := by decide +kernel
theorem d_Md_ways_0 : decode M_Md_ways.2.1 0 = .ok (.iconst 1, 1) := by decide +kernel
theorem d_Md_ways_1 : decode M_Md_ways.2.1 1 = .ok (.istore_n 1, 1) := by decide +kernel
theorem d_Md_ways_2 : decode M_Md_ways.2.1 2 = .ok (.iconst 2, 1) := by decide +kernel
theorem d_Md_ways_3 : decode M_Md_ways.2.1 3 = .ok (.istore_n 2, 1) := by decide +kernel
theorem d_Md_ways_4 : decode M_Md_ways.2.1 4 = .ok (.iload_n 2, 1) := by decide +kernel
theorem d_Md_ways_5 : decode M_Md_ways.2.1 5 = .ok (.iload_n 0, 1) := by decide +kernel
theorem d_Md_ways_6 : decode M_Md_ways.2.1 6 = .ok (.if_icmp .gt 13, 3) := by decide +kernel
theorem d_Md_ways_9 : decode M_Md_ways.2.1 9 = .ok (.iload_n 1, 1) := by decide +kernel
theorem d_Md_ways_10 : decode M_Md_ways.2.1 10 = .ok (.iload_n 2, 1) := by decide +kernel
theorem d_Md_ways_11 : decode M_Md_ways.2.1 11 = .ok (.imul, 1) := by decide +kernel
theorem d_Md_ways_12 : decode M_Md_ways.2.1 12 = .ok (.istore_n 1, 1) := by decide +kernel
theorem d_Md_ways_13 : decode M_Md_ways.2.1 13 = .ok (.iinc 2 1, 3) := by decide +kernel
theorem d_Md_ways_16 : decode M_Md_ways.2.1 16 = .ok (.goto (-12), 3) := by decide +kernel
theorem d_Md_ways_19 : decode M_Md_ways.2.1 19 = .ok (.iload_n 1, 1) := by decide +kernel
theorem d_Md_ways_20 : decode M_Md_ways.2.1 20 = .ok (.ireturn, 1) := by decide +kernel
theorem d_Md_divisor_0 : decode M_Md_divisor.2.1 0 = .ok (.iload_n 0, 1) := by decide +kernel
theorem d_Md_divisor_1 : decode M_Md_divisor.2.1 1 = .ok (.ifCond .ge 8, 3) := by decide +kernel
theorem d_Md_divisor_4 : decode M_Md_divisor.2.1 4 = .ok (.iload_n 0, 1) := by decide +kernel
theorem d_Md_divisor_5 : decode M_Md_divisor.2.1 5 = .ok (.ineg, 1) := by decide +kernel
theorem d_Md_divisor_6 : decode M_Md_divisor.2.1 6 = .ok (.goto 4, 3) := by decide +kernel
theorem d_Md_divisor_9 : decode M_Md_divisor.2.1 9 = .ok (.iload_n 0, 1) := by decide +kernel
theorem d_Md_divisor_10 : decode M_Md_divisor.2.1 10 = .ok (.istore_n 2, 1) := by decide +kernel
theorem d_Md_divisor_11 : decode M_Md_divisor.2.1 11 = .ok (.iload_n 1, 1) := by decide +kernel
theorem d_Md_divisor_12 : decode M_Md_divisor.2.1 12 = .ok (.istore_n 3, 1) := by decide +kernel
theorem d_Md_divisor_13 : decode M_Md_divisor.2.1 13 = .ok (.iload_n 3, 1) := by decide +kernel
theorem d_Md_divisor_14 : decode M_Md_divisor.2.1 14 = .ok (.ifCond .eq 16, 3) := by decide +kernel
theorem d_Md_divisor_17 : decode M_Md_divisor.2.1 17 = .ok (.iload_n 2, 1) := by decide +kernel
theorem d_Md_divisor_18 : decode M_Md_divisor.2.1 18 = .ok (.iload_n 3, 1) := by decide +kernel
theorem d_Md_divisor_19 : decode M_Md_divisor.2.1 19 = .ok (.irem, 1) := by decide +kernel
theorem d_Md_divisor_20 : decode M_Md_divisor.2.1 20 = .ok (.istore 4, 2) := by decide +kernel
theorem d_Md_divisor_22 : decode M_Md_divisor.2.1 22 = .ok (.iload_n 3, 1) := by decide +kernel
theorem d_Md_divisor_23 : decode M_Md_divisor.2.1 23 = .ok (.istore_n 2, 1) := by decide +kernel
theorem d_Md_divisor_24 : decode M_Md_divisor.2.1 24 = .ok (.iload 4, 2) := by decide +kernel
theorem d_Md_divisor_26 : decode M_Md_divisor.2.1 26 = .ok (.istore_n 3, 1) := by decide +kernel
theorem d_Md_divisor_27 : decode M_Md_divisor.2.1 27 = .ok (.goto (-14), 3) := by decide +kernel
theorem d_Md_divisor_30 : decode M_Md_divisor.2.1 30 = .ok (.iload_n 2, 1) := by decide +kernel
theorem d_Md_divisor_31 : decode M_Md_divisor.2.1 31 = .ok (.ireturn, 1) := by decide +kernel
theorem d_Md_fraction_0 : decode M_Md_fraction.2.1 0 = .ok (.iload_n 0, 1) := by decide +kernel
theorem d_Md_fraction_1 : decode M_Md_fraction.2.1 1 = .ok (.iload_n 1, 1) := by decide +kernel
theorem d_Md_fraction_2 : decode M_Md_fraction.2.1 2 = .ok (.invokestatic 218, 3) := by decide +kernel
theorem d_Md_fraction_5 : decode M_Md_fraction.2.1 5 = .ok (.istore_n 3, 1) := by decide +kernel
theorem d_Md_fraction_6 : decode M_Md_fraction.2.1 6 = .ok (.iload_n 2, 1) := by decide +kernel
theorem d_Md_fraction_7 : decode M_Md_fraction.2.1 7 = .ok (.ifCond .eq 9, 3) := by decide +kernel
theorem d_Md_fraction_10 : decode M_Md_fraction.2.1 10 = .ok (.iload_n 0, 1) := by decide +kernel
theorem d_Md_fraction_11 : decode M_Md_fraction.2.1 11 = .ok (.iload_n 3, 1) := by decide +kernel
theorem d_Md_fraction_12 : decode M_Md_fraction.2.1 12 = .ok (.idiv, 1) := by decide +kernel
theorem d_Md_fraction_13 : decode M_Md_fraction.2.1 13 = .ok (.goto 6, 3) := by decide +kernel
theorem d_Md_fraction_16 : decode M_Md_fraction.2.1 16 = .ok (.iload_n 1, 1) := by decide +kernel
theorem d_Md_fraction_17 : decode M_Md_fraction.2.1 17 = .ok (.iload_n 3, 1) := by decide +kernel
theorem d_Md_fraction_18 : decode M_Md_fraction.2.1 18 = .ok (.idiv, 1) := by decide +kernel
theorem d_Md_fraction_19 : decode M_Md_fraction.2.1 19 = .ok (.ireturn, 1) := by decide +kernel
theorem d_Md_share_0 : decode M_Md_share.2.1 0 = .ok (.aload_n 0, 1) := by decide +kernel
theorem d_Md_share_1 : decode M_Md_share.2.1 1 = .ok (.iconst 0, 1) := by decide +kernel
theorem d_Md_share_2 : decode M_Md_share.2.1 2 = .ok (.putfield 62, 3) := by decide +kernel
theorem d_Md_share_5 : decode M_Md_share.2.1 5 = .ok (.aload_n 0, 1) := by decide +kernel
theorem d_Md_share_6 : decode M_Md_share.2.1 6 = .ok (.iload_n 1, 1) := by decide +kernel
theorem d_Md_share_7 : decode M_Md_share.2.1 7 = .ok (.invokevirtual 157, 3) := by decide +kernel
theorem d_Md_share_10 : decode M_Md_share.2.1 10 = .ok (.ifCond .eq 5, 3) := by decide +kernel
theorem d_Md_share_13 : decode M_Md_share.2.1 13 = .ok (.iconst (-1), 1) := by decide +kernel
theorem d_Md_share_14 : decode M_Md_share.2.1 14 = .ok (.ireturn, 1) := by decide +kernel
theorem d_Md_share_15 : decode M_Md_share.2.1 15 = .ok (.iconst 0, 1) := by decide +kernel
theorem d_Md_share_16 : decode M_Md_share.2.1 16 = .ok (.istore_n 3, 1) := by decide +kernel
theorem d_Md_share_17 : decode M_Md_share.2.1 17 = .ok (.iload_n 3, 1) := by decide +kernel
theorem d_Md_share_18 : decode M_Md_share.2.1 18 = .ok (.iconst 1, 1) := by decide +kernel
theorem d_Md_share_19 : decode M_Md_share.2.1 19 = .ok (.aload_n 0, 1) := by decide +kernel
theorem d_Md_share_20 : decode M_Md_share.2.1 20 = .ok (.getfield 66, 3) := by decide +kernel
theorem d_Md_share_23 : decode M_Md_share.2.1 23 = .ok (.ishl, 1) := by decide +kernel
theorem d_Md_share_24 : decode M_Md_share.2.1 24 = .ok (.if_icmp .ge 76, 3) := by decide +kernel
theorem d_Md_share_27 : decode M_Md_share.2.1 27 = .ok (.aload_n 0, 1) := by decide +kernel
theorem d_Md_share_28 : decode M_Md_share.2.1 28 = .ok (.invokevirtual 180, 3) := by decide +kernel
theorem d_Md_share_31 : decode M_Md_share.2.1 31 = .ok (.iconst 0, 1) := by decide +kernel
theorem d_Md_share_32 : decode M_Md_share.2.1 32 = .ok (.istore 4, 2) := by decide +kernel
theorem d_Md_share_34 : decode M_Md_share.2.1 34 = .ok (.iload 4, 2) := by decide +kernel
theorem d_Md_share_36 : decode M_Md_share.2.1 36 = .ok (.aload_n 0, 1) := by decide +kernel
theorem d_Md_share_37 : decode M_Md_share.2.1 37 = .ok (.getfield 66, 3) := by decide +kernel
theorem d_Md_share_40 : decode M_Md_share.2.1 40 = .ok (.if_icmp .ge 40, 3) := by decide +kernel
theorem d_Md_share_43 : decode M_Md_share.2.1 43 = .ok (.aload_n 0, 1) := by decide +kernel
theorem d_Md_share_44 : decode M_Md_share.2.1 44 = .ok (.getfield 28, 3) := by decide +kernel
theorem d_Md_share_47 : decode M_Md_share.2.1 47 = .ok (.iconst 0, 1) := by decide +kernel
theorem d_Md_share_48 : decode M_Md_share.2.1 48 = .ok (.iload 4, 2) := by decide +kernel
theorem d_Md_share_50 : decode M_Md_share.2.1 50 = .ok (.iadd, 1) := by decide +kernel
theorem d_Md_share_51 : decode M_Md_share.2.1 51 = .ok (.iload_n 3, 1) := by decide +kernel
theorem d_Md_share_52 : decode M_Md_share.2.1 52 = .ok (.iload 4, 2) := by decide +kernel
theorem d_Md_share_54 : decode M_Md_share.2.1 54 = .ok (.invokestatic 130, 3) := by decide +kernel
theorem d_Md_share_57 : decode M_Md_share.2.1 57 = .ok (.ifCond .eq 15, 3) := by decide +kernel
theorem d_Md_share_60 : decode M_Md_share.2.1 60 = .ok (.aload_n 0, 1) := by decide +kernel
theorem d_Md_share_61 : decode M_Md_share.2.1 61 = .ok (.getfield 25, 3) := by decide +kernel
theorem d_Md_share_64 : decode M_Md_share.2.1 64 = .ok (.iconst 0, 1) := by decide +kernel
theorem d_Md_share_65 : decode M_Md_share.2.1 65 = .ok (.iload 4, 2) := by decide +kernel
theorem d_Md_share_67 : decode M_Md_share.2.1 67 = .ok (.iadd, 1) := by decide +kernel
theorem d_Md_share_68 : decode M_Md_share.2.1 68 = .ok (.iaload, 1) := by decide +kernel
theorem d_Md_share_69 : decode M_Md_share.2.1 69 = .ok (.goto 4, 3) := by decide +kernel
theorem d_Md_share_72 : decode M_Md_share.2.1 72 = .ok (.iconst 0, 1) := by decide +kernel
theorem d_Md_share_73 : decode M_Md_share.2.1 73 = .ok (.iastore, 1) := by decide +kernel
theorem d_Md_share_74 : decode M_Md_share.2.1 74 = .ok (.iinc 4 1, 3) := by decide +kernel
theorem d_Md_share_77 : decode M_Md_share.2.1 77 = .ok (.goto (-43), 3) := by decide +kernel
theorem d_Md_share_80 : decode M_Md_share.2.1 80 = .ok (.aload_n 0, 1) := by decide +kernel
theorem d_Md_share_81 : decode M_Md_share.2.1 81 = .ok (.getfield 59, 3) := by decide +kernel
theorem d_Md_share_84 : decode M_Md_share.2.1 84 = .ok (.iload_n 3, 1) := by decide +kernel
theorem d_Md_share_85 : decode M_Md_share.2.1 85 = .ok (.aload_n 0, 1) := by decide +kernel
theorem d_Md_share_86 : decode M_Md_share.2.1 86 = .ok (.aload_n 0, 1) := by decide +kernel
theorem d_Md_share_87 : decode M_Md_share.2.1 87 = .ok (.getfield 28, 3) := by decide +kernel
theorem d_Md_share_90 : decode M_Md_share.2.1 90 = .ok (.invokevirtual 148, 3) := by decide +kernel
theorem d_Md_share_93 : decode M_Md_share.2.1 93 = .ok (.iastore, 1) := by decide +kernel
theorem d_Md_share_94 : decode M_Md_share.2.1 94 = .ok (.iinc 3 1, 3) := by decide +kernel
theorem d_Md_share_97 : decode M_Md_share.2.1 97 = .ok (.goto (-80), 3) := by decide +kernel
theorem d_Md_share_100 : decode M_Md_share.2.1 100 = .ok (.iconst 0, 1) := by decide +kernel
theorem d_Md_share_101 : decode M_Md_share.2.1 101 = .ok (.istore_n 3, 1) := by decide +kernel
theorem d_Md_share_102 : decode M_Md_share.2.1 102 = .ok (.iconst 0, 1) := by decide +kernel
theorem d_Md_share_103 : decode M_Md_share.2.1 103 = .ok (.istore 4, 2) := by decide +kernel
theorem d_Md_share_105 : decode M_Md_share.2.1 105 = .ok (.iload 4, 2) := by decide +kernel
theorem d_Md_share_107 : decode M_Md_share.2.1 107 = .ok (.iconst 1, 1) := by decide +kernel
theorem d_Md_share_108 : decode M_Md_share.2.1 108 = .ok (.aload_n 0, 1) := by decide +kernel
theorem d_Md_share_109 : decode M_Md_share.2.1 109 = .ok (.getfield 66, 3) := by decide +kernel
theorem d_Md_share_112 : decode M_Md_share.2.1 112 = .ok (.ishl, 1) := by decide +kernel
theorem d_Md_share_113 : decode M_Md_share.2.1 113 = .ok (.if_icmp .ge 66, 3) := by decide +kernel
theorem d_Md_share_116 : decode M_Md_share.2.1 116 = .ok (.iload 4, 2) := by decide +kernel
theorem d_Md_share_118 : decode M_Md_share.2.1 118 = .ok (.iload_n 1, 1) := by decide +kernel
theorem d_Md_share_119 : decode M_Md_share.2.1 119 = .ok (.invokestatic 130, 3) := by decide +kernel
theorem d_Md_share_122 : decode M_Md_share.2.1 122 = .ok (.ifCond .ne 51, 3) := by decide +kernel
theorem d_Md_share_125 : decode M_Md_share.2.1 125 = .ok (.iload 4, 2) := by decide +kernel
theorem d_Md_share_127 : decode M_Md_share.2.1 127 = .ok (.invokestatic 134, 3) := by decide +kernel
theorem d_Md_share_130 : decode M_Md_share.2.1 130 = .ok (.istore 5, 2) := by decide +kernel
theorem d_Md_share_132 : decode M_Md_share.2.1 132 = .ok (.iload_n 3, 1) := by decide +kernel
theorem d_Md_share_133 : decode M_Md_share.2.1 133 = .ok (.iload 5, 2) := by decide +kernel
theorem d_Md_share_135 : decode M_Md_share.2.1 135 = .ok (.invokestatic 221, 3) := by decide +kernel
theorem d_Md_share_138 : decode M_Md_share.2.1 138 = .ok (.aload_n 0, 1) := by decide +kernel
theorem d_Md_share_139 : decode M_Md_share.2.1 139 = .ok (.getfield 66, 3) := by decide +kernel
theorem d_Md_share_142 : decode M_Md_share.2.1 142 = .ok (.iconst 1, 1) := by decide +kernel
theorem d_Md_share_143 : decode M_Md_share.2.1 143 = .ok (.isub, 1) := by decide +kernel
theorem d_Md_share_144 : decode M_Md_share.2.1 144 = .ok (.iload 5, 2) := by decide +kernel
theorem d_Md_share_146 : decode M_Md_share.2.1 146 = .ok (.isub, 1) := by decide +kernel
theorem d_Md_share_147 : decode M_Md_share.2.1 147 = .ok (.invokestatic 221, 3) := by decide +kernel
theorem d_Md_share_150 : decode M_Md_share.2.1 150 = .ok (.imul, 1) := by decide +kernel
theorem d_Md_share_151 : decode M_Md_share.2.1 151 = .ok (.aload_n 0, 1) := by decide +kernel
theorem d_Md_share_152 : decode M_Md_share.2.1 152 = .ok (.getfield 59, 3) := by decide +kernel
theorem d_Md_share_155 : decode M_Md_share.2.1 155 = .ok (.iload 4, 2) := by decide +kernel
theorem d_Md_share_157 : decode M_Md_share.2.1 157 = .ok (.iconst 1, 1) := by decide +kernel
theorem d_Md_share_158 : decode M_Md_share.2.1 158 = .ok (.iload_n 1, 1) := by decide +kernel
theorem d_Md_share_159 : decode M_Md_share.2.1 159 = .ok (.ishl, 1) := by decide +kernel
theorem d_Md_share_160 : decode M_Md_share.2.1 160 = .ok (.ior, 1) := by decide +kernel
theorem d_Md_share_161 : decode M_Md_share.2.1 161 = .ok (.iaload, 1) := by decide +kernel
theorem d_Md_share_162 : decode M_Md_share.2.1 162 = .ok (.aload_n 0, 1) := by decide +kernel
theorem d_Md_share_163 : decode M_Md_share.2.1 163 = .ok (.getfield 59, 3) := by decide +kernel
theorem d_Md_share_166 : decode M_Md_share.2.1 166 = .ok (.iload 4, 2) := by decide +kernel
theorem d_Md_share_168 : decode M_Md_share.2.1 168 = .ok (.iaload, 1) := by decide +kernel
theorem d_Md_share_169 : decode M_Md_share.2.1 169 = .ok (.isub, 1) := by decide +kernel
theorem d_Md_share_170 : decode M_Md_share.2.1 170 = .ok (.imul, 1) := by decide +kernel
theorem d_Md_share_171 : decode M_Md_share.2.1 171 = .ok (.iadd, 1) := by decide +kernel
theorem d_Md_share_172 : decode M_Md_share.2.1 172 = .ok (.istore_n 3, 1) := by decide +kernel
theorem d_Md_share_173 : decode M_Md_share.2.1 173 = .ok (.iinc 4 1, 3) := by decide +kernel
theorem d_Md_share_176 : decode M_Md_share.2.1 176 = .ok (.goto (-71), 3) := by decide +kernel
theorem d_Md_share_179 : decode M_Md_share.2.1 179 = .ok (.iload_n 3, 1) := by decide +kernel
theorem d_Md_share_180 : decode M_Md_share.2.1 180 = .ok (.aload_n 0, 1) := by decide +kernel
theorem d_Md_share_181 : decode M_Md_share.2.1 181 = .ok (.getfield 66, 3) := by decide +kernel
theorem d_Md_share_184 : decode M_Md_share.2.1 184 = .ok (.invokestatic 221, 3) := by decide +kernel
theorem d_Md_share_187 : decode M_Md_share.2.1 187 = .ok (.iload_n 2, 1) := by decide +kernel
theorem d_Md_share_188 : decode M_Md_share.2.1 188 = .ok (.invokestatic 224, 3) := by decide +kernel
theorem d_Md_share_191 : decode M_Md_share.2.1 191 = .ok (.ireturn, 1) := by decide +kernel
theorem d_Md_count_0 : decode M_Md_count.2.1 0 = .ok (.aload_n 0, 1) := by decide +kernel
theorem d_Md_count_1 : decode M_Md_count.2.1 1 = .ok (.iconst 0, 1) := by decide +kernel
theorem d_Md_count_2 : decode M_Md_count.2.1 2 = .ok (.putfield 62, 3) := by decide +kernel
theorem d_Md_count_5 : decode M_Md_count.2.1 5 = .ok (.aload_n 0, 1) := by decide +kernel
theorem d_Md_count_6 : decode M_Md_count.2.1 6 = .ok (.iload_n 1, 1) := by decide +kernel
theorem d_Md_count_7 : decode M_Md_count.2.1 7 = .ok (.invokevirtual 157, 3) := by decide +kernel
theorem d_Md_count_10 : decode M_Md_count.2.1 10 = .ok (.ifCond .eq 5, 3) := by decide +kernel
theorem d_Md_count_13 : decode M_Md_count.2.1 13 = .ok (.iconst (-1), 1) := by decide +kernel
theorem d_Md_count_14 : decode M_Md_count.2.1 14 = .ok (.ireturn, 1) := by decide +kernel
theorem d_Md_count_15 : decode M_Md_count.2.1 15 = .ok (.iload_n 2, 1) := by decide +kernel
theorem d_Md_count_16 : decode M_Md_count.2.1 16 = .ok (.i2l, 1) := by decide +kernel
theorem d_Md_count_17 : decode M_Md_count.2.1 17 = .ok (.lconst 0, 1) := by decide +kernel
theorem d_Md_count_18 : decode M_Md_count.2.1 18 = .ok (.ldc2_w 172, 3) := by decide +kernel
theorem d_Md_count_21 : decode M_Md_count.2.1 21 = .ok (.invokestatic 69, 3) := by decide +kernel
theorem d_Md_count_24 : decode M_Md_count.2.1 24 = .ok (.ifCond .eq 15, 3) := by decide +kernel
theorem d_Md_count_27 : decode M_Md_count.2.1 27 = .ok (.iload_n 3, 1) := by decide +kernel
theorem d_Md_count_28 : decode M_Md_count.2.1 28 = .ok (.i2l, 1) := by decide +kernel
theorem d_Md_count_29 : decode M_Md_count.2.1 29 = .ok (.lconst 0, 1) := by decide +kernel
theorem d_Md_count_30 : decode M_Md_count.2.1 30 = .ok (.ldc2_w 183, 3) := by decide +kernel
theorem d_Md_count_33 : decode M_Md_count.2.1 33 = .ok (.invokestatic 69, 3) := by decide +kernel
theorem d_Md_count_36 : decode M_Md_count.2.1 36 = .ok (.ifCond .ne 6, 3) := by decide +kernel
theorem d_Md_count_39 : decode M_Md_count.2.1 39 = .ok (.bipush (-2), 2) := by decide +kernel
theorem d_Md_count_41 : decode M_Md_count.2.1 41 = .ok (.ireturn, 1) := by decide +kernel
theorem d_Md_count_42 : decode M_Md_count.2.1 42 = .ok (.aload_n 0, 1) := by decide +kernel
theorem d_Md_count_43 : decode M_Md_count.2.1 43 = .ok (.getfield 154, 3) := by decide +kernel
theorem d_Md_count_46 : decode M_Md_count.2.1 46 = .ok (.bipush 6, 2) := by decide +kernel
theorem d_Md_count_48 : decode M_Md_count.2.1 48 = .ok (.if_icmp .ne 6, 3) := by decide +kernel
theorem d_Md_count_51 : decode M_Md_count.2.1 51 = .ok (.bipush (-4), 2) := by decide +kernel
theorem d_Md_count_53 : decode M_Md_count.2.1 53 = .ok (.ireturn, 1) := by decide +kernel
theorem d_Md_count_54 : decode M_Md_count.2.1 54 = .ok (.aload_n 0, 1) := by decide +kernel
theorem d_Md_count_55 : decode M_Md_count.2.1 55 = .ok (.getfield 41, 3) := by decide +kernel
theorem d_Md_count_58 : decode M_Md_count.2.1 58 = .ok (.aload_n 0, 1) := by decide +kernel
theorem d_Md_count_59 : decode M_Md_count.2.1 59 = .ok (.getfield 154, 3) := by decide +kernel
theorem d_Md_count_62 : decode M_Md_count.2.1 62 = .ok (.iload_n 1, 1) := by decide +kernel
theorem d_Md_count_63 : decode M_Md_count.2.1 63 = .ok (.iastore, 1) := by decide +kernel
theorem d_Md_count_64 : decode M_Md_count.2.1 64 = .ok (.aload_n 0, 1) := by decide +kernel
theorem d_Md_count_65 : decode M_Md_count.2.1 65 = .ok (.getfield 44, 3) := by decide +kernel
theorem d_Md_count_68 : decode M_Md_count.2.1 68 = .ok (.aload_n 0, 1) := by decide +kernel
theorem d_Md_count_69 : decode M_Md_count.2.1 69 = .ok (.getfield 154, 3) := by decide +kernel
theorem d_Md_count_72 : decode M_Md_count.2.1 72 = .ok (.iload_n 2, 1) := by decide +kernel
theorem d_Md_count_73 : decode M_Md_count.2.1 73 = .ok (.iastore, 1) := by decide +kernel
theorem d_Md_count_74 : decode M_Md_count.2.1 74 = .ok (.aload_n 0, 1) := by decide +kernel
theorem d_Md_count_75 : decode M_Md_count.2.1 75 = .ok (.getfield 47, 3) := by decide +kernel
theorem d_Md_count_78 : decode M_Md_count.2.1 78 = .ok (.aload_n 0, 1) := by decide +kernel
theorem d_Md_count_79 : decode M_Md_count.2.1 79 = .ok (.getfield 154, 3) := by decide +kernel
theorem d_Md_count_82 : decode M_Md_count.2.1 82 = .ok (.iload_n 3, 1) := by decide +kernel
theorem d_Md_count_83 : decode M_Md_count.2.1 83 = .ok (.iastore, 1) := by decide +kernel
theorem d_Md_count_84 : decode M_Md_count.2.1 84 = .ok (.aload_n 0, 1) := by decide +kernel
theorem d_Md_count_85 : decode M_Md_count.2.1 85 = .ok (.dup, 1) := by decide +kernel
theorem d_Md_count_86 : decode M_Md_count.2.1 86 = .ok (.getfield 154, 3) := by decide +kernel
theorem d_Md_count_89 : decode M_Md_count.2.1 89 = .ok (.iconst 1, 1) := by decide +kernel
theorem d_Md_count_90 : decode M_Md_count.2.1 90 = .ok (.iadd, 1) := by decide +kernel
theorem d_Md_count_91 : decode M_Md_count.2.1 91 = .ok (.putfield 154, 3) := by decide +kernel
theorem d_Md_count_94 : decode M_Md_count.2.1 94 = .ok (.aload_n 0, 1) := by decide +kernel
theorem d_Md_count_95 : decode M_Md_count.2.1 95 = .ok (.getfield 154, 3) := by decide +kernel
theorem d_Md_count_98 : decode M_Md_count.2.1 98 = .ok (.ireturn, 1) := by decide +kernel
theorem d_Md_forget_0 : decode M_Md_forget.2.1 0 = .ok (.aload_n 0, 1) := by decide +kernel
theorem d_Md_forget_1 : decode M_Md_forget.2.1 1 = .ok (.iconst 0, 1) := by decide +kernel
theorem d_Md_forget_2 : decode M_Md_forget.2.1 2 = .ok (.putfield 62, 3) := by decide +kernel
theorem d_Md_forget_5 : decode M_Md_forget.2.1 5 = .ok (.aload_n 0, 1) := by decide +kernel
theorem d_Md_forget_6 : decode M_Md_forget.2.1 6 = .ok (.getfield 154, 3) := by decide +kernel
theorem d_Md_forget_9 : decode M_Md_forget.2.1 9 = .ok (.istore_n 1, 1) := by decide +kernel
theorem d_Md_forget_10 : decode M_Md_forget.2.1 10 = .ok (.aload_n 0, 1) := by decide +kernel
theorem d_Md_forget_11 : decode M_Md_forget.2.1 11 = .ok (.iconst 0, 1) := by decide +kernel
theorem d_Md_forget_12 : decode M_Md_forget.2.1 12 = .ok (.putfield 154, 3) := by decide +kernel
theorem d_Md_forget_15 : decode M_Md_forget.2.1 15 = .ok (.iload_n 1, 1) := by decide +kernel
theorem d_Md_forget_16 : decode M_Md_forget.2.1 16 = .ok (.ireturn, 1) := by decide +kernel
theorem d_Md_honeys_0 : decode M_Md_honeys.2.1 0 = .ok (.aload_n 0, 1) := by decide +kernel
theorem d_Md_honeys_1 : decode M_Md_honeys.2.1 1 = .ok (.iconst 0, 1) := by decide +kernel
theorem d_Md_honeys_2 : decode M_Md_honeys.2.1 2 = .ok (.putfield 62, 3) := by decide +kernel
theorem d_Md_honeys_5 : decode M_Md_honeys.2.1 5 = .ok (.iconst 0, 1) := by decide +kernel
theorem d_Md_honeys_6 : decode M_Md_honeys.2.1 6 = .ok (.istore_n 1, 1) := by decide +kernel
theorem d_Md_honeys_7 : decode M_Md_honeys.2.1 7 = .ok (.iconst 0, 1) := by decide +kernel
theorem d_Md_honeys_8 : decode M_Md_honeys.2.1 8 = .ok (.istore_n 2, 1) := by decide +kernel
theorem d_Md_honeys_9 : decode M_Md_honeys.2.1 9 = .ok (.iload_n 2, 1) := by decide +kernel
theorem d_Md_honeys_10 : decode M_Md_honeys.2.1 10 = .ok (.bipush 10, 2) := by decide +kernel
theorem d_Md_honeys_12 : decode M_Md_honeys.2.1 12 = .ok (.if_icmp .ge 124, 3) := by decide +kernel
theorem d_Md_honeys_15 : decode M_Md_honeys.2.1 15 = .ok (.iconst 1, 1) := by decide +kernel
theorem d_Md_honeys_16 : decode M_Md_honeys.2.1 16 = .ok (.istore_n 3, 1) := by decide +kernel
theorem d_Md_honeys_17 : decode M_Md_honeys.2.1 17 = .ok (.iconst 0, 1) := by decide +kernel
theorem d_Md_honeys_18 : decode M_Md_honeys.2.1 18 = .ok (.istore 4, 2) := by decide +kernel
theorem d_Md_honeys_20 : decode M_Md_honeys.2.1 20 = .ok (.iload 4, 2) := by decide +kernel
theorem d_Md_honeys_22 : decode M_Md_honeys.2.1 22 = .ok (.aload_n 0, 1) := by decide +kernel
theorem d_Md_honeys_23 : decode M_Md_honeys.2.1 23 = .ok (.getfield 154, 3) := by decide +kernel
theorem d_Md_honeys_26 : decode M_Md_honeys.2.1 26 = .ok (.if_icmp .ge 90, 3) := by decide +kernel
theorem d_Md_honeys_29 : decode M_Md_honeys.2.1 29 = .ok (.aload_n 0, 1) := by decide +kernel
theorem d_Md_honeys_30 : decode M_Md_honeys.2.1 30 = .ok (.invokevirtual 180, 3) := by decide +kernel
theorem d_Md_honeys_33 : decode M_Md_honeys.2.1 33 = .ok (.aload_n 0, 1) := by decide +kernel
theorem d_Md_honeys_34 : decode M_Md_honeys.2.1 34 = .ok (.getfield 28, 3) := by decide +kernel
theorem d_Md_honeys_37 : decode M_Md_honeys.2.1 37 = .ok (.bipush 17, 2) := by decide +kernel
theorem d_Md_honeys_39 : decode M_Md_honeys.2.1 39 = .ok (.iload_n 2, 1) := by decide +kernel
theorem d_Md_honeys_40 : decode M_Md_honeys.2.1 40 = .ok (.iastore, 1) := by decide +kernel
theorem d_Md_honeys_41 : decode M_Md_honeys.2.1 41 = .ok (.aload_n 0, 1) := by decide +kernel
theorem d_Md_honeys_42 : decode M_Md_honeys.2.1 42 = .ok (.getfield 28, 3) := by decide +kernel
theorem d_Md_honeys_45 : decode M_Md_honeys.2.1 45 = .ok (.bipush 16, 2) := by decide +kernel
theorem d_Md_honeys_47 : decode M_Md_honeys.2.1 47 = .ok (.aload_n 0, 1) := by decide +kernel
theorem d_Md_honeys_48 : decode M_Md_honeys.2.1 48 = .ok (.getfield 44, 3) := by decide +kernel
theorem d_Md_honeys_51 : decode M_Md_honeys.2.1 51 = .ok (.iload 4, 2) := by decide +kernel
theorem d_Md_honeys_53 : decode M_Md_honeys.2.1 53 = .ok (.iaload, 1) := by decide +kernel
theorem d_Md_honeys_54 : decode M_Md_honeys.2.1 54 = .ok (.iastore, 1) := by decide +kernel
theorem d_Md_honeys_55 : decode M_Md_honeys.2.1 55 = .ok (.aload_n 0, 1) := by decide +kernel
theorem d_Md_honeys_56 : decode M_Md_honeys.2.1 56 = .ok (.aload_n 0, 1) := by decide +kernel
theorem d_Md_honeys_57 : decode M_Md_honeys.2.1 57 = .ok (.getfield 28, 3) := by decide +kernel
theorem d_Md_honeys_60 : decode M_Md_honeys.2.1 60 = .ok (.invokevirtual 148, 3) := by decide +kernel
theorem d_Md_honeys_63 : decode M_Md_honeys.2.1 63 = .ok (.pop, 1) := by decide +kernel
theorem d_Md_honeys_64 : decode M_Md_honeys.2.1 64 = .ok (.iload_n 3, 1) := by decide +kernel
theorem d_Md_honeys_65 : decode M_Md_honeys.2.1 65 = .ok (.ifCond .eq 43, 3) := by decide +kernel
theorem d_Md_honeys_68 : decode M_Md_honeys.2.1 68 = .ok (.aload_n 0, 1) := by decide +kernel
theorem d_Md_honeys_69 : decode M_Md_honeys.2.1 69 = .ok (.aload_n 0, 1) := by decide +kernel
theorem d_Md_honeys_70 : decode M_Md_honeys.2.1 70 = .ok (.getfield 41, 3) := by decide +kernel
theorem d_Md_honeys_73 : decode M_Md_honeys.2.1 73 = .ok (.iload 4, 2) := by decide +kernel
theorem d_Md_honeys_75 : decode M_Md_honeys.2.1 75 = .ok (.iaload, 1) := by decide +kernel
theorem d_Md_honeys_76 : decode M_Md_honeys.2.1 76 = .ok (.invokevirtual 157, 3) := by decide +kernel
theorem d_Md_honeys_79 : decode M_Md_honeys.2.1 79 = .ok (.ifCond .ne 25, 3) := by decide +kernel
theorem d_Md_honeys_82 : decode M_Md_honeys.2.1 82 = .ok (.aload_n 0, 1) := by decide +kernel
theorem d_Md_honeys_83 : decode M_Md_honeys.2.1 83 = .ok (.getfield 53, 3) := by decide +kernel
theorem d_Md_honeys_86 : decode M_Md_honeys.2.1 86 = .ok (.aload_n 0, 1) := by decide +kernel
theorem d_Md_honeys_87 : decode M_Md_honeys.2.1 87 = .ok (.getfield 41, 3) := by decide +kernel
theorem d_Md_honeys_90 : decode M_Md_honeys.2.1 90 = .ok (.iload 4, 2) := by decide +kernel
theorem d_Md_honeys_92 : decode M_Md_honeys.2.1 92 = .ok (.iaload, 1) := by decide +kernel
theorem d_Md_honeys_93 : decode M_Md_honeys.2.1 93 = .ok (.iaload, 1) := by decide +kernel
theorem d_Md_honeys_94 : decode M_Md_honeys.2.1 94 = .ok (.aload_n 0, 1) := by decide +kernel
theorem d_Md_honeys_95 : decode M_Md_honeys.2.1 95 = .ok (.getfield 47, 3) := by decide +kernel
theorem d_Md_honeys_98 : decode M_Md_honeys.2.1 98 = .ok (.iload 4, 2) := by decide +kernel
theorem d_Md_honeys_100 : decode M_Md_honeys.2.1 100 = .ok (.iaload, 1) := by decide +kernel
theorem d_Md_honeys_101 : decode M_Md_honeys.2.1 101 = .ok (.if_icmp .ne 7, 3) := by decide +kernel
theorem d_Md_honeys_104 : decode M_Md_honeys.2.1 104 = .ok (.iconst 1, 1) := by decide +kernel
theorem d_Md_honeys_105 : decode M_Md_honeys.2.1 105 = .ok (.goto 4, 3) := by decide +kernel
theorem d_Md_honeys_108 : decode M_Md_honeys.2.1 108 = .ok (.iconst 0, 1) := by decide +kernel
theorem d_Md_honeys_109 : decode M_Md_honeys.2.1 109 = .ok (.istore_n 3, 1) := by decide +kernel
theorem d_Md_honeys_110 : decode M_Md_honeys.2.1 110 = .ok (.iinc 4 1, 3) := by decide +kernel
theorem d_Md_honeys_113 : decode M_Md_honeys.2.1 113 = .ok (.goto (-93), 3) := by decide +kernel
theorem d_Md_honeys_116 : decode M_Md_honeys.2.1 116 = .ok (.iload_n 1, 1) := by decide +kernel
theorem d_Md_honeys_117 : decode M_Md_honeys.2.1 117 = .ok (.iload_n 3, 1) := by decide +kernel
theorem d_Md_honeys_118 : decode M_Md_honeys.2.1 118 = .ok (.ifCond .eq 9, 3) := by decide +kernel
theorem d_Md_honeys_121 : decode M_Md_honeys.2.1 121 = .ok (.iconst 1, 1) := by decide +kernel
theorem d_Md_honeys_122 : decode M_Md_honeys.2.1 122 = .ok (.iload_n 2, 1) := by decide +kernel
theorem d_Md_honeys_123 : decode M_Md_honeys.2.1 123 = .ok (.ishl, 1) := by decide +kernel
theorem d_Md_honeys_124 : decode M_Md_honeys.2.1 124 = .ok (.goto 4, 3) := by decide +kernel
theorem d_Md_honeys_127 : decode M_Md_honeys.2.1 127 = .ok (.iconst 0, 1) := by decide +kernel
theorem d_Md_honeys_128 : decode M_Md_honeys.2.1 128 = .ok (.ior, 1) := by decide +kernel
theorem d_Md_honeys_129 : decode M_Md_honeys.2.1 129 = .ok (.istore_n 1, 1) := by decide +kernel
theorem d_Md_honeys_130 : decode M_Md_honeys.2.1 130 = .ok (.iinc 2 1, 3) := by decide +kernel
theorem d_Md_honeys_133 : decode M_Md_honeys.2.1 133 = .ok (.goto (-124), 3) := by decide +kernel
theorem d_Md_honeys_136 : decode M_Md_honeys.2.1 136 = .ok (.iload_n 1, 1) := by decide +kernel
theorem d_Md_honeys_137 : decode M_Md_honeys.2.1 137 = .ok (.ireturn, 1) := by decide +kernel
theorem d_Md_gainOf_0 : decode M_Md_gainOf.2.1 0 = .ok (.iload_n 2, 1) := by decide +kernel
theorem d_Md_gainOf_1 : decode M_Md_gainOf.2.1 1 = .ok (.iconst 1, 1) := by decide +kernel
theorem d_Md_gainOf_2 : decode M_Md_gainOf.2.1 2 = .ok (.if_icmp .ne 14, 3) := by decide +kernel
theorem d_Md_gainOf_5 : decode M_Md_gainOf.2.1 5 = .ok (.iconst 5, 1) := by decide +kernel
theorem d_Md_gainOf_6 : decode M_Md_gainOf.2.1 6 = .ok (.aload_n 0, 1) := by decide +kernel
theorem d_Md_gainOf_7 : decode M_Md_gainOf.2.1 7 = .ok (.getfield 53, 3) := by decide +kernel
theorem d_Md_gainOf_10 : decode M_Md_gainOf.2.1 10 = .ok (.iload_n 1, 1) := by decide +kernel
theorem d_Md_gainOf_11 : decode M_Md_gainOf.2.1 11 = .ok (.iaload, 1) := by decide +kernel
theorem d_Md_gainOf_12 : decode M_Md_gainOf.2.1 12 = .ok (.isub, 1) := by decide +kernel
theorem d_Md_gainOf_13 : decode M_Md_gainOf.2.1 13 = .ok (.goto 20, 3) := by decide +kernel
theorem d_Md_gainOf_16 : decode M_Md_gainOf.2.1 16 = .ok (.aload_n 0, 1) := by decide +kernel
theorem d_Md_gainOf_17 : decode M_Md_gainOf.2.1 17 = .ok (.aload_n 0, 1) := by decide +kernel
theorem d_Md_gainOf_18 : decode M_Md_gainOf.2.1 18 = .ok (.getfield 28, 3) := by decide +kernel
theorem d_Md_gainOf_21 : decode M_Md_gainOf.2.1 21 = .ok (.iload_n 1, 1) := by decide +kernel
theorem d_Md_gainOf_22 : decode M_Md_gainOf.2.1 22 = .ok (.invokevirtual 140, 3) := by decide +kernel
theorem d_Md_gainOf_25 : decode M_Md_gainOf.2.1 25 = .ok (.ifCond .eq 7, 3) := by decide +kernel
theorem d_Md_gainOf_28 : decode M_Md_gainOf.2.1 28 = .ok (.iconst 3, 1) := by decide +kernel
theorem d_Md_gainOf_29 : decode M_Md_gainOf.2.1 29 = .ok (.goto 4, 3) := by decide +kernel
theorem d_Md_gainOf_32 : decode M_Md_gainOf.2.1 32 = .ok (.iconst 0, 1) := by decide +kernel
theorem d_Md_gainOf_33 : decode M_Md_gainOf.2.1 33 = .ok (.ireturn, 1) := by decide +kernel
theorem d_Md_findRests_0 : decode M_Md_findRests.2.1 0 = .ok (.iconst 0, 1) := by decide +kernel
theorem d_Md_findRests_1 : decode M_Md_findRests.2.1 1 = .ok (.istore_n 3, 1) := by decide +kernel
theorem d_Md_findRests_2 : decode M_Md_findRests.2.1 2 = .ok (.iload_n 3, 1) := by decide +kernel
theorem d_Md_findRests_3 : decode M_Md_findRests.2.1 3 = .ok (.iconst 4, 1) := by decide +kernel
theorem d_Md_findRests_4 : decode M_Md_findRests.2.1 4 = .ok (.if_icmp .ge 84, 3) := by decide +kernel
theorem d_Md_findRests_7 : decode M_Md_findRests.2.1 7 = .ok (.aload_n 0, 1) := by decide +kernel
theorem d_Md_findRests_8 : decode M_Md_findRests.2.1 8 = .ok (.invokevirtual 180, 3) := by decide +kernel
theorem d_Md_findRests_11 : decode M_Md_findRests.2.1 11 = .ok (.aload_n 0, 1) := by decide +kernel
theorem d_Md_findRests_12 : decode M_Md_findRests.2.1 12 = .ok (.getfield 28, 3) := by decide +kernel
theorem d_Md_findRests_15 : decode M_Md_findRests.2.1 15 = .ok (.iconst 0, 1) := by decide +kernel
theorem d_Md_findRests_16 : decode M_Md_findRests.2.1 16 = .ok (.iload_n 1, 1) := by decide +kernel
theorem d_Md_findRests_17 : decode M_Md_findRests.2.1 17 = .ok (.iadd, 1) := by decide +kernel
theorem d_Md_findRests_18 : decode M_Md_findRests.2.1 18 = .ok (.dup2, 1) := by decide +kernel
theorem d_Md_findRests_19 : decode M_Md_findRests.2.1 19 = .ok (.iaload, 1) := by decide +kernel
theorem d_Md_findRests_20 : decode M_Md_findRests.2.1 20 = .ok (.iload_n 3, 1) := by decide +kernel
theorem d_Md_findRests_21 : decode M_Md_findRests.2.1 21 = .ok (.iconst 2, 1) := by decide +kernel
theorem d_Md_findRests_22 : decode M_Md_findRests.2.1 22 = .ok (.idiv, 1) := by decide +kernel
theorem d_Md_findRests_23 : decode M_Md_findRests.2.1 23 = .ok (.imul, 1) := by decide +kernel
theorem d_Md_findRests_24 : decode M_Md_findRests.2.1 24 = .ok (.iastore, 1) := by decide +kernel
theorem d_Md_findRests_25 : decode M_Md_findRests.2.1 25 = .ok (.aload_n 0, 1) := by decide +kernel
theorem d_Md_findRests_26 : decode M_Md_findRests.2.1 26 = .ok (.getfield 28, 3) := by decide +kernel
theorem d_Md_findRests_29 : decode M_Md_findRests.2.1 29 = .ok (.iconst 0, 1) := by decide +kernel
theorem d_Md_findRests_30 : decode M_Md_findRests.2.1 30 = .ok (.iload_n 2, 1) := by decide +kernel
theorem d_Md_findRests_31 : decode M_Md_findRests.2.1 31 = .ok (.iadd, 1) := by decide +kernel
theorem d_Md_findRests_32 : decode M_Md_findRests.2.1 32 = .ok (.dup2, 1) := by decide +kernel
theorem d_Md_findRests_33 : decode M_Md_findRests.2.1 33 = .ok (.iaload, 1) := by decide +kernel
theorem d_Md_findRests_34 : decode M_Md_findRests.2.1 34 = .ok (.iload_n 3, 1) := by decide +kernel
theorem d_Md_findRests_35 : decode M_Md_findRests.2.1 35 = .ok (.iconst 2, 1) := by decide +kernel
theorem d_Md_findRests_36 : decode M_Md_findRests.2.1 36 = .ok (.irem, 1) := by decide +kernel
theorem d_Md_findRests_37 : decode M_Md_findRests.2.1 37 = .ok (.imul, 1) := by decide +kernel
theorem d_Md_findRests_38 : decode M_Md_findRests.2.1 38 = .ok (.iastore, 1) := by decide +kernel
theorem d_Md_findRests_39 : decode M_Md_findRests.2.1 39 = .ok (.aload_n 0, 1) := by decide +kernel
theorem d_Md_findRests_40 : decode M_Md_findRests.2.1 40 = .ok (.aload_n 0, 1) := by decide +kernel
theorem d_Md_findRests_41 : decode M_Md_findRests.2.1 41 = .ok (.getfield 28, 3) := by decide +kernel
theorem d_Md_findRests_44 : decode M_Md_findRests.2.1 44 = .ok (.invokevirtual 148, 3) := by decide +kernel
theorem d_Md_findRests_47 : decode M_Md_findRests.2.1 47 = .ok (.pop, 1) := by decide +kernel
theorem d_Md_findRests_48 : decode M_Md_findRests.2.1 48 = .ok (.aload_n 0, 1) := by decide +kernel
theorem d_Md_findRests_49 : decode M_Md_findRests.2.1 49 = .ok (.getfield 56, 3) := by decide +kernel
theorem d_Md_findRests_52 : decode M_Md_findRests.2.1 52 = .ok (.iconst 2, 1) := by decide +kernel
theorem d_Md_findRests_53 : decode M_Md_findRests.2.1 53 = .ok (.iload_n 3, 1) := by decide +kernel
theorem d_Md_findRests_54 : decode M_Md_findRests.2.1 54 = .ok (.imul, 1) := by decide +kernel
theorem d_Md_findRests_55 : decode M_Md_findRests.2.1 55 = .ok (.aload_n 0, 1) := by decide +kernel
theorem d_Md_findRests_56 : decode M_Md_findRests.2.1 56 = .ok (.iload_n 1, 1) := by decide +kernel
theorem d_Md_findRests_57 : decode M_Md_findRests.2.1 57 = .ok (.iload_n 3, 1) := by decide +kernel
theorem d_Md_findRests_58 : decode M_Md_findRests.2.1 58 = .ok (.iconst 2, 1) := by decide +kernel
theorem d_Md_findRests_59 : decode M_Md_findRests.2.1 59 = .ok (.idiv, 1) := by decide +kernel
theorem d_Md_findRests_60 : decode M_Md_findRests.2.1 60 = .ok (.invokevirtual 228, 3) := by decide +kernel
theorem d_Md_findRests_63 : decode M_Md_findRests.2.1 63 = .ok (.iastore, 1) := by decide +kernel
theorem d_Md_findRests_64 : decode M_Md_findRests.2.1 64 = .ok (.aload_n 0, 1) := by decide +kernel
theorem d_Md_findRests_65 : decode M_Md_findRests.2.1 65 = .ok (.getfield 56, 3) := by decide +kernel
theorem d_Md_findRests_68 : decode M_Md_findRests.2.1 68 = .ok (.iconst 2, 1) := by decide +kernel
theorem d_Md_findRests_69 : decode M_Md_findRests.2.1 69 = .ok (.iload_n 3, 1) := by decide +kernel
theorem d_Md_findRests_70 : decode M_Md_findRests.2.1 70 = .ok (.imul, 1) := by decide +kernel
theorem d_Md_findRests_71 : decode M_Md_findRests.2.1 71 = .ok (.iconst 1, 1) := by decide +kernel
theorem d_Md_findRests_72 : decode M_Md_findRests.2.1 72 = .ok (.iadd, 1) := by decide +kernel
theorem d_Md_findRests_73 : decode M_Md_findRests.2.1 73 = .ok (.aload_n 0, 1) := by decide +kernel
theorem d_Md_findRests_74 : decode M_Md_findRests.2.1 74 = .ok (.iload_n 2, 1) := by decide +kernel
theorem d_Md_findRests_75 : decode M_Md_findRests.2.1 75 = .ok (.iload_n 3, 1) := by decide +kernel
theorem d_Md_findRests_76 : decode M_Md_findRests.2.1 76 = .ok (.iconst 2, 1) := by decide +kernel
theorem d_Md_findRests_77 : decode M_Md_findRests.2.1 77 = .ok (.irem, 1) := by decide +kernel
theorem d_Md_findRests_78 : decode M_Md_findRests.2.1 78 = .ok (.invokevirtual 228, 3) := by decide +kernel
theorem d_Md_findRests_81 : decode M_Md_findRests.2.1 81 = .ok (.iastore, 1) := by decide +kernel
theorem d_Md_findRests_82 : decode M_Md_findRests.2.1 82 = .ok (.iinc 3 1, 3) := by decide +kernel
theorem d_Md_findRests_85 : decode M_Md_findRests.2.1 85 = .ok (.goto (-83), 3) := by decide +kernel
theorem d_Md_findRests_88 : decode M_Md_findRests.2.1 88 = .ok (.aload_n 0, 1) := by decide +kernel
theorem d_Md_findRests_89 : decode M_Md_findRests.2.1 89 = .ok (.iconst 0, 1) := by decide +kernel
theorem d_Md_findRests_90 : decode M_Md_findRests.2.1 90 = .ok (.putfield 231, 3) := by decide +kernel
theorem d_Md_findRests_93 : decode M_Md_findRests.2.1 93 = .ok (.aload_n 0, 1) := by decide +kernel
theorem d_Md_findRests_94 : decode M_Md_findRests.2.1 94 = .ok (.bipush (-9), 2) := by decide +kernel
theorem d_Md_findRests_96 : decode M_Md_findRests.2.1 96 = .ok (.putfield 234, 3) := by decide +kernel
theorem d_Md_findRests_99 : decode M_Md_findRests.2.1 99 = .ok (.iconst 0, 1) := by decide +kernel
theorem d_Md_findRests_100 : decode M_Md_findRests.2.1 100 = .ok (.istore_n 3, 1) := by decide +kernel
theorem d_Md_findRests_101 : decode M_Md_findRests.2.1 101 = .ok (.iload_n 3, 1) := by decide +kernel
theorem d_Md_findRests_102 : decode M_Md_findRests.2.1 102 = .ok (.iconst 4, 1) := by decide +kernel
theorem d_Md_findRests_103 : decode M_Md_findRests.2.1 103 = .ok (.if_icmp .ge 114, 3) := by decide +kernel
theorem d_Md_findRests_106 : decode M_Md_findRests.2.1 106 = .ok (.aload_n 0, 1) := by decide +kernel
theorem d_Md_findRests_107 : decode M_Md_findRests.2.1 107 = .ok (.getfield 56, 3) := by decide +kernel
theorem d_Md_findRests_110 : decode M_Md_findRests.2.1 110 = .ok (.iconst 2, 1) := by decide +kernel
theorem d_Md_findRests_111 : decode M_Md_findRests.2.1 111 = .ok (.iload_n 3, 1) := by decide +kernel
theorem d_Md_findRests_112 : decode M_Md_findRests.2.1 112 = .ok (.iconst 2, 1) := by decide +kernel
theorem d_Md_findRests_113 : decode M_Md_findRests.2.1 113 = .ok (.ixor, 1) := by decide +kernel
theorem d_Md_findRests_114 : decode M_Md_findRests.2.1 114 = .ok (.imul, 1) := by decide +kernel
theorem d_Md_findRests_115 : decode M_Md_findRests.2.1 115 = .ok (.iaload, 1) := by decide +kernel
theorem d_Md_findRests_116 : decode M_Md_findRests.2.1 116 = .ok (.aload_n 0, 1) := by decide +kernel
theorem d_Md_findRests_117 : decode M_Md_findRests.2.1 117 = .ok (.getfield 56, 3) := by decide +kernel
theorem d_Md_findRests_120 : decode M_Md_findRests.2.1 120 = .ok (.iconst 2, 1) := by decide +kernel
theorem d_Md_findRests_121 : decode M_Md_findRests.2.1 121 = .ok (.iload_n 3, 1) := by decide +kernel
theorem d_Md_findRests_122 : decode M_Md_findRests.2.1 122 = .ok (.imul, 1) := by decide +kernel
theorem d_Md_findRests_123 : decode M_Md_findRests.2.1 123 = .ok (.iaload, 1) := by decide +kernel
theorem d_Md_findRests_124 : decode M_Md_findRests.2.1 124 = .ok (.if_icmp .gt 32, 3) := by decide +kernel
theorem d_Md_findRests_127 : decode M_Md_findRests.2.1 127 = .ok (.aload_n 0, 1) := by decide +kernel
theorem d_Md_findRests_128 : decode M_Md_findRests.2.1 128 = .ok (.getfield 56, 3) := by decide +kernel
theorem d_Md_findRests_131 : decode M_Md_findRests.2.1 131 = .ok (.iconst 2, 1) := by decide +kernel
theorem d_Md_findRests_132 : decode M_Md_findRests.2.1 132 = .ok (.iload_n 3, 1) := by decide +kernel
theorem d_Md_findRests_133 : decode M_Md_findRests.2.1 133 = .ok (.iconst 1, 1) := by decide +kernel
theorem d_Md_findRests_134 : decode M_Md_findRests.2.1 134 = .ok (.ixor, 1) := by decide +kernel
theorem d_Md_findRests_135 : decode M_Md_findRests.2.1 135 = .ok (.imul, 1) := by decide +kernel
theorem d_Md_findRests_136 : decode M_Md_findRests.2.1 136 = .ok (.iconst 1, 1) := by decide +kernel
theorem d_Md_findRests_137 : decode M_Md_findRests.2.1 137 = .ok (.iadd, 1) := by decide +kernel
theorem d_Md_findRests_138 : decode M_Md_findRests.2.1 138 = .ok (.iaload, 1) := by decide +kernel
theorem d_Md_findRests_139 : decode M_Md_findRests.2.1 139 = .ok (.aload_n 0, 1) := by decide +kernel
theorem d_Md_findRests_140 : decode M_Md_findRests.2.1 140 = .ok (.getfield 56, 3) := by decide +kernel
theorem d_Md_findRests_143 : decode M_Md_findRests.2.1 143 = .ok (.iconst 2, 1) := by decide +kernel
theorem d_Md_findRests_144 : decode M_Md_findRests.2.1 144 = .ok (.iload_n 3, 1) := by decide +kernel
theorem d_Md_findRests_145 : decode M_Md_findRests.2.1 145 = .ok (.imul, 1) := by decide +kernel
theorem d_Md_findRests_146 : decode M_Md_findRests.2.1 146 = .ok (.iconst 1, 1) := by decide +kernel
theorem d_Md_findRests_147 : decode M_Md_findRests.2.1 147 = .ok (.iadd, 1) := by decide +kernel
theorem d_Md_findRests_148 : decode M_Md_findRests.2.1 148 = .ok (.iaload, 1) := by decide +kernel
theorem d_Md_findRests_149 : decode M_Md_findRests.2.1 149 = .ok (.if_icmp .gt 7, 3) := by decide +kernel
theorem d_Md_findRests_152 : decode M_Md_findRests.2.1 152 = .ok (.iconst 1, 1) := by decide +kernel
theorem d_Md_findRests_153 : decode M_Md_findRests.2.1 153 = .ok (.goto 4, 3) := by decide +kernel
theorem d_Md_findRests_156 : decode M_Md_findRests.2.1 156 = .ok (.iconst 0, 1) := by decide +kernel
theorem d_Md_findRests_157 : decode M_Md_findRests.2.1 157 = .ok (.istore 4, 2) := by decide +kernel
theorem d_Md_findRests_159 : decode M_Md_findRests.2.1 159 = .ok (.aload_n 0, 1) := by decide +kernel
theorem d_Md_findRests_160 : decode M_Md_findRests.2.1 160 = .ok (.iload 4, 2) := by decide +kernel
theorem d_Md_findRests_162 : decode M_Md_findRests.2.1 162 = .ok (.ifCond .eq 23, 3) := by decide +kernel
theorem d_Md_findRests_165 : decode M_Md_findRests.2.1 165 = .ok (.aload_n 0, 1) := by decide +kernel
theorem d_Md_findRests_166 : decode M_Md_findRests.2.1 166 = .ok (.getfield 231, 3) := by decide +kernel
theorem d_Md_findRests_169 : decode M_Md_findRests.2.1 169 = .ok (.ifCond .ne 16, 3) := by decide +kernel
theorem d_Md_findRests_172 : decode M_Md_findRests.2.1 172 = .ok (.bipush 10, 2) := by decide +kernel
theorem d_Md_findRests_174 : decode M_Md_findRests.2.1 174 = .ok (.iload_n 3, 1) := by decide +kernel
theorem d_Md_findRests_175 : decode M_Md_findRests.2.1 175 = .ok (.iconst 2, 1) := by decide +kernel
theorem d_Md_findRests_176 : decode M_Md_findRests.2.1 176 = .ok (.idiv, 1) := by decide +kernel
theorem d_Md_findRests_177 : decode M_Md_findRests.2.1 177 = .ok (.imul, 1) := by decide +kernel
theorem d_Md_findRests_178 : decode M_Md_findRests.2.1 178 = .ok (.iload_n 3, 1) := by decide +kernel
theorem d_Md_findRests_179 : decode M_Md_findRests.2.1 179 = .ok (.iconst 2, 1) := by decide +kernel
theorem d_Md_findRests_180 : decode M_Md_findRests.2.1 180 = .ok (.irem, 1) := by decide +kernel
theorem d_Md_findRests_181 : decode M_Md_findRests.2.1 181 = .ok (.iadd, 1) := by decide +kernel
theorem d_Md_findRests_182 : decode M_Md_findRests.2.1 182 = .ok (.goto 7, 3) := by decide +kernel
theorem d_Md_findRests_185 : decode M_Md_findRests.2.1 185 = .ok (.aload_n 0, 1) := by decide +kernel
theorem d_Md_findRests_186 : decode M_Md_findRests.2.1 186 = .ok (.getfield 234, 3) := by decide +kernel
theorem d_Md_findRests_189 : decode M_Md_findRests.2.1 189 = .ok (.putfield 234, 3) := by decide +kernel
theorem d_Md_findRests_192 : decode M_Md_findRests.2.1 192 = .ok (.aload_n 0, 1) := by decide +kernel
theorem d_Md_findRests_193 : decode M_Md_findRests.2.1 193 = .ok (.dup, 1) := by decide +kernel
theorem d_Md_findRests_194 : decode M_Md_findRests.2.1 194 = .ok (.getfield 231, 3) := by decide +kernel
theorem d_Md_findRests_197 : decode M_Md_findRests.2.1 197 = .ok (.iload 4, 2) := by decide +kernel
theorem d_Md_findRests_199 : decode M_Md_findRests.2.1 199 = .ok (.ifCond .eq 7, 3) := by decide +kernel
theorem d_Md_findRests_202 : decode M_Md_findRests.2.1 202 = .ok (.iconst 1, 1) := by decide +kernel
theorem d_Md_findRests_203 : decode M_Md_findRests.2.1 203 = .ok (.goto 4, 3) := by decide +kernel
theorem d_Md_findRests_206 : decode M_Md_findRests.2.1 206 = .ok (.iconst 0, 1) := by decide +kernel
theorem d_Md_findRests_207 : decode M_Md_findRests.2.1 207 = .ok (.iadd, 1) := by decide +kernel
theorem d_Md_findRests_208 : decode M_Md_findRests.2.1 208 = .ok (.putfield 231, 3) := by decide +kernel
theorem d_Md_findRests_211 : decode M_Md_findRests.2.1 211 = .ok (.iinc 3 1, 3) := by decide +kernel
theorem d_Md_findRests_214 : decode M_Md_findRests.2.1 214 = .ok (.goto (-113), 3) := by decide +kernel
theorem d_Md_findRests_217 : decode M_Md_findRests.2.1 217 = .ok (.return_, 1) := by decide +kernel
theorem d_Md_rests_0 : decode M_Md_rests.2.1 0 = .ok (.aload_n 0, 1) := by decide +kernel
theorem d_Md_rests_1 : decode M_Md_rests.2.1 1 = .ok (.iconst 0, 1) := by decide +kernel
theorem d_Md_rests_2 : decode M_Md_rests.2.1 2 = .ok (.putfield 62, 3) := by decide +kernel
theorem d_Md_rests_5 : decode M_Md_rests.2.1 5 = .ok (.aload_n 0, 1) := by decide +kernel
theorem d_Md_rests_6 : decode M_Md_rests.2.1 6 = .ok (.iload_n 1, 1) := by decide +kernel
theorem d_Md_rests_7 : decode M_Md_rests.2.1 7 = .ok (.invokevirtual 157, 3) := by decide +kernel
theorem d_Md_rests_10 : decode M_Md_rests.2.1 10 = .ok (.ifCond .ne 11, 3) := by decide +kernel
theorem d_Md_rests_13 : decode M_Md_rests.2.1 13 = .ok (.aload_n 0, 1) := by decide +kernel
theorem d_Md_rests_14 : decode M_Md_rests.2.1 14 = .ok (.iload_n 2, 1) := by decide +kernel
theorem d_Md_rests_15 : decode M_Md_rests.2.1 15 = .ok (.invokevirtual 157, 3) := by decide +kernel
theorem d_Md_rests_18 : decode M_Md_rests.2.1 18 = .ok (.ifCond .eq 5, 3) := by decide +kernel
theorem d_Md_rests_21 : decode M_Md_rests.2.1 21 = .ok (.iconst (-1), 1) := by decide +kernel
theorem d_Md_rests_22 : decode M_Md_rests.2.1 22 = .ok (.ireturn, 1) := by decide +kernel
theorem d_Md_rests_23 : decode M_Md_rests.2.1 23 = .ok (.iload_n 1, 1) := by decide +kernel
theorem d_Md_rests_24 : decode M_Md_rests.2.1 24 = .ok (.iload_n 2, 1) := by decide +kernel
theorem d_Md_rests_25 : decode M_Md_rests.2.1 25 = .ok (.if_icmp .eq 13, 3) := by decide +kernel
theorem d_Md_rests_28 : decode M_Md_rests.2.1 28 = .ok (.iload_n 3, 1) := by decide +kernel
theorem d_Md_rests_29 : decode M_Md_rests.2.1 29 = .ok (.i2l, 1) := by decide +kernel
theorem d_Md_rests_30 : decode M_Md_rests.2.1 30 = .ok (.lconst 0, 1) := by decide +kernel
theorem d_Md_rests_31 : decode M_Md_rests.2.1 31 = .ok (.lconst 1, 1) := by decide +kernel
theorem d_Md_rests_32 : decode M_Md_rests.2.1 32 = .ok (.invokestatic 69, 3) := by decide +kernel
theorem d_Md_rests_35 : decode M_Md_rests.2.1 35 = .ok (.ifCond .ne 6, 3) := by decide +kernel
theorem d_Md_rests_38 : decode M_Md_rests.2.1 38 = .ok (.bipush (-2), 2) := by decide +kernel
theorem d_Md_rests_40 : decode M_Md_rests.2.1 40 = .ok (.ireturn, 1) := by decide +kernel
theorem d_Md_rests_41 : decode M_Md_rests.2.1 41 = .ok (.aload_n 0, 1) := by decide +kernel
theorem d_Md_rests_42 : decode M_Md_rests.2.1 42 = .ok (.iload_n 1, 1) := by decide +kernel
theorem d_Md_rests_43 : decode M_Md_rests.2.1 43 = .ok (.iload_n 2, 1) := by decide +kernel
theorem d_Md_rests_44 : decode M_Md_rests.2.1 44 = .ok (.invokevirtual 237, 3) := by decide +kernel
theorem d_Md_rests_47 : decode M_Md_rests.2.1 47 = .ok (.iload_n 3, 1) := by decide +kernel
theorem d_Md_rests_48 : decode M_Md_rests.2.1 48 = .ok (.ifCond .ne 10, 3) := by decide +kernel
theorem d_Md_rests_51 : decode M_Md_rests.2.1 51 = .ok (.aload_n 0, 1) := by decide +kernel
theorem d_Md_rests_52 : decode M_Md_rests.2.1 52 = .ok (.getfield 231, 3) := by decide +kernel
theorem d_Md_rests_55 : decode M_Md_rests.2.1 55 = .ok (.goto 7, 3) := by decide +kernel
theorem d_Md_rests_58 : decode M_Md_rests.2.1 58 = .ok (.aload_n 0, 1) := by decide +kernel
theorem d_Md_rests_59 : decode M_Md_rests.2.1 59 = .ok (.getfield 234, 3) := by decide +kernel
theorem d_Md_rests_62 : decode M_Md_rests.2.1 62 = .ok (.ireturn, 1) := by decide +kernel
theorem d_Md_clouds_0 : decode M_Md_clouds.2.1 0 = .ok (.aload_n 0, 1) := by decide +kernel
theorem d_Md_clouds_1 : decode M_Md_clouds.2.1 1 = .ok (.iconst 0, 1) := by decide +kernel
theorem d_Md_clouds_2 : decode M_Md_clouds.2.1 2 = .ok (.putfield 62, 3) := by decide +kernel
theorem d_Md_clouds_5 : decode M_Md_clouds.2.1 5 = .ok (.iload_n 1, 1) := by decide +kernel
theorem d_Md_clouds_6 : decode M_Md_clouds.2.1 6 = .ok (.i2l, 1) := by decide +kernel
theorem d_Md_clouds_7 : decode M_Md_clouds.2.1 7 = .ok (.lconst 0, 1) := by decide +kernel
theorem d_Md_clouds_8 : decode M_Md_clouds.2.1 8 = .ok (.ldc2_w 183, 3) := by decide +kernel
theorem d_Md_clouds_11 : decode M_Md_clouds.2.1 11 = .ok (.invokestatic 69, 3) := by decide +kernel
theorem d_Md_clouds_14 : decode M_Md_clouds.2.1 14 = .ok (.ifCond .eq 15, 3) := by decide +kernel
theorem d_Md_clouds_17 : decode M_Md_clouds.2.1 17 = .ok (.iload_n 2, 1) := by decide +kernel
theorem d_Md_clouds_18 : decode M_Md_clouds.2.1 18 = .ok (.i2l, 1) := by decide +kernel
theorem d_Md_clouds_19 : decode M_Md_clouds.2.1 19 = .ok (.lconst 0, 1) := by decide +kernel
theorem d_Md_clouds_20 : decode M_Md_clouds.2.1 20 = .ok (.ldc2_w 241, 3) := by decide +kernel
theorem d_Md_clouds_23 : decode M_Md_clouds.2.1 23 = .ok (.invokestatic 69, 3) := by decide +kernel
theorem d_Md_clouds_26 : decode M_Md_clouds.2.1 26 = .ok (.ifCond .ne 6, 3) := by decide +kernel
theorem d_Md_clouds_29 : decode M_Md_clouds.2.1 29 = .ok (.bipush (-2), 2) := by decide +kernel
theorem d_Md_clouds_31 : decode M_Md_clouds.2.1 31 = .ok (.ireturn, 1) := by decide +kernel
theorem d_Md_clouds_32 : decode M_Md_clouds.2.1 32 = .ok (.iconst 0, 1) := by decide +kernel
theorem d_Md_clouds_33 : decode M_Md_clouds.2.1 33 = .ok (.istore 4, 2) := by decide +kernel
theorem d_Md_clouds_35 : decode M_Md_clouds.2.1 35 = .ok (.iconst 0, 1) := by decide +kernel
theorem d_Md_clouds_36 : decode M_Md_clouds.2.1 36 = .ok (.istore 5, 2) := by decide +kernel
theorem d_Md_clouds_38 : decode M_Md_clouds.2.1 38 = .ok (.iload 5, 2) := by decide +kernel
theorem d_Md_clouds_40 : decode M_Md_clouds.2.1 40 = .ok (.iconst 1, 1) := by decide +kernel
theorem d_Md_clouds_41 : decode M_Md_clouds.2.1 41 = .ok (.aload_n 0, 1) := by decide +kernel
theorem d_Md_clouds_42 : decode M_Md_clouds.2.1 42 = .ok (.getfield 66, 3) := by decide +kernel
theorem d_Md_clouds_45 : decode M_Md_clouds.2.1 45 = .ok (.ishl, 1) := by decide +kernel
theorem d_Md_clouds_46 : decode M_Md_clouds.2.1 46 = .ok (.if_icmp .ge 143, 3) := by decide +kernel
theorem d_Md_clouds_49 : decode M_Md_clouds.2.1 49 = .ok (.aload_n 0, 1) := by decide +kernel
theorem d_Md_clouds_50 : decode M_Md_clouds.2.1 50 = .ok (.invokevirtual 180, 3) := by decide +kernel
theorem d_Md_clouds_53 : decode M_Md_clouds.2.1 53 = .ok (.iconst 0, 1) := by decide +kernel
theorem d_Md_clouds_54 : decode M_Md_clouds.2.1 54 = .ok (.istore 6, 2) := by decide +kernel
theorem d_Md_clouds_56 : decode M_Md_clouds.2.1 56 = .ok (.iload 6, 2) := by decide +kernel
theorem d_Md_clouds_58 : decode M_Md_clouds.2.1 58 = .ok (.aload_n 0, 1) := by decide +kernel
theorem d_Md_clouds_59 : decode M_Md_clouds.2.1 59 = .ok (.getfield 66, 3) := by decide +kernel
theorem d_Md_clouds_62 : decode M_Md_clouds.2.1 62 = .ok (.if_icmp .ge 72, 3) := by decide +kernel
theorem d_Md_clouds_65 : decode M_Md_clouds.2.1 65 = .ok (.aload_n 0, 1) := by decide +kernel
theorem d_Md_clouds_66 : decode M_Md_clouds.2.1 66 = .ok (.getfield 28, 3) := by decide +kernel
theorem d_Md_clouds_69 : decode M_Md_clouds.2.1 69 = .ok (.iconst 0, 1) := by decide +kernel
theorem d_Md_clouds_70 : decode M_Md_clouds.2.1 70 = .ok (.iload 6, 2) := by decide +kernel
theorem d_Md_clouds_72 : decode M_Md_clouds.2.1 72 = .ok (.iadd, 1) := by decide +kernel
theorem d_Md_clouds_73 : decode M_Md_clouds.2.1 73 = .ok (.iaload, 1) := by decide +kernel
theorem d_Md_clouds_74 : decode M_Md_clouds.2.1 74 = .ok (.iconst 2, 1) := by decide +kernel
theorem d_Md_clouds_75 : decode M_Md_clouds.2.1 75 = .ok (.if_icmp .ge 7, 3) := by decide +kernel
theorem d_Md_clouds_78 : decode M_Md_clouds.2.1 78 = .ok (.iconst 0, 1) := by decide +kernel
theorem d_Md_clouds_79 : decode M_Md_clouds.2.1 79 = .ok (.goto 14, 3) := by decide +kernel
theorem d_Md_clouds_82 : decode M_Md_clouds.2.1 82 = .ok (.aload_n 0, 1) := by decide +kernel
theorem d_Md_clouds_83 : decode M_Md_clouds.2.1 83 = .ok (.getfield 28, 3) := by decide +kernel
theorem d_Md_clouds_86 : decode M_Md_clouds.2.1 86 = .ok (.iconst 0, 1) := by decide +kernel
theorem d_Md_clouds_87 : decode M_Md_clouds.2.1 87 = .ok (.iload 6, 2) := by decide +kernel
theorem d_Md_clouds_89 : decode M_Md_clouds.2.1 89 = .ok (.iadd, 1) := by decide +kernel
theorem d_Md_clouds_90 : decode M_Md_clouds.2.1 90 = .ok (.iaload, 1) := by decide +kernel
theorem d_Md_clouds_91 : decode M_Md_clouds.2.1 91 = .ok (.iconst 2, 1) := by decide +kernel
theorem d_Md_clouds_92 : decode M_Md_clouds.2.1 92 = .ok (.isub, 1) := by decide +kernel
theorem d_Md_clouds_93 : decode M_Md_clouds.2.1 93 = .ok (.istore 7, 2) := by decide +kernel
theorem d_Md_clouds_95 : decode M_Md_clouds.2.1 95 = .ok (.aload_n 0, 1) := by decide +kernel
theorem d_Md_clouds_96 : decode M_Md_clouds.2.1 96 = .ok (.getfield 28, 3) := by decide +kernel
theorem d_Md_clouds_99 : decode M_Md_clouds.2.1 99 = .ok (.iconst 0, 1) := by decide +kernel
theorem d_Md_clouds_100 : decode M_Md_clouds.2.1 100 = .ok (.iload 6, 2) := by decide +kernel
theorem d_Md_clouds_102 : decode M_Md_clouds.2.1 102 = .ok (.iadd, 1) := by decide +kernel
theorem d_Md_clouds_103 : decode M_Md_clouds.2.1 103 = .ok (.iload 5, 2) := by decide +kernel
theorem d_Md_clouds_105 : decode M_Md_clouds.2.1 105 = .ok (.iload 6, 2) := by decide +kernel
theorem d_Md_clouds_107 : decode M_Md_clouds.2.1 107 = .ok (.invokestatic 130, 3) := by decide +kernel
theorem d_Md_clouds_110 : decode M_Md_clouds.2.1 110 = .ok (.ifCond .eq 8, 3) := by decide +kernel
theorem d_Md_clouds_113 : decode M_Md_clouds.2.1 113 = .ok (.iload 7, 2) := by decide +kernel
theorem d_Md_clouds_115 : decode M_Md_clouds.2.1 115 = .ok (.goto 12, 3) := by decide +kernel
theorem d_Md_clouds_118 : decode M_Md_clouds.2.1 118 = .ok (.aload_n 0, 1) := by decide +kernel
theorem d_Md_clouds_119 : decode M_Md_clouds.2.1 119 = .ok (.getfield 28, 3) := by decide +kernel
theorem d_Md_clouds_122 : decode M_Md_clouds.2.1 122 = .ok (.iconst 0, 1) := by decide +kernel
theorem d_Md_clouds_123 : decode M_Md_clouds.2.1 123 = .ok (.iload 6, 2) := by decide +kernel
theorem d_Md_clouds_125 : decode M_Md_clouds.2.1 125 = .ok (.iadd, 1) := by decide +kernel
theorem d_Md_clouds_126 : decode M_Md_clouds.2.1 126 = .ok (.iaload, 1) := by decide +kernel
theorem d_Md_clouds_127 : decode M_Md_clouds.2.1 127 = .ok (.iastore, 1) := by decide +kernel
theorem d_Md_clouds_128 : decode M_Md_clouds.2.1 128 = .ok (.iinc 6 1, 3) := by decide +kernel
theorem d_Md_clouds_131 : decode M_Md_clouds.2.1 131 = .ok (.goto (-75), 3) := by decide +kernel
theorem d_Md_clouds_134 : decode M_Md_clouds.2.1 134 = .ok (.iload 5, 2) := by decide +kernel
theorem d_Md_clouds_136 : decode M_Md_clouds.2.1 136 = .ok (.invokestatic 134, 3) := by decide +kernel
theorem d_Md_clouds_139 : decode M_Md_clouds.2.1 139 = .ok (.istore 6, 2) := by decide +kernel
theorem d_Md_clouds_141 : decode M_Md_clouds.2.1 141 = .ok (.iload 4, 2) := by decide +kernel
theorem d_Md_clouds_143 : decode M_Md_clouds.2.1 143 = .ok (.aload_n 0, 1) := by decide +kernel
theorem d_Md_clouds_144 : decode M_Md_clouds.2.1 144 = .ok (.aload_n 0, 1) := by decide +kernel
theorem d_Md_clouds_145 : decode M_Md_clouds.2.1 145 = .ok (.getfield 28, 3) := by decide +kernel
theorem d_Md_clouds_148 : decode M_Md_clouds.2.1 148 = .ok (.invokevirtual 148, 3) := by decide +kernel
theorem d_Md_clouds_151 : decode M_Md_clouds.2.1 151 = .ok (.iload_n 1, 1) := by decide +kernel
theorem d_Md_clouds_152 : decode M_Md_clouds.2.1 152 = .ok (.if_icmp .gt 27, 3) := by decide +kernel
theorem d_Md_clouds_155 : decode M_Md_clouds.2.1 155 = .ok (.iload_n 2, 1) := by decide +kernel
theorem d_Md_clouds_156 : decode M_Md_clouds.2.1 156 = .ok (.iload 6, 2) := by decide +kernel
theorem d_Md_clouds_158 : decode M_Md_clouds.2.1 158 = .ok (.invokestatic 195, 3) := by decide +kernel
theorem d_Md_clouds_161 : decode M_Md_clouds.2.1 161 = .ok (.bipush 10, 2) := by decide +kernel
theorem d_Md_clouds_163 : decode M_Md_clouds.2.1 163 = .ok (.iload_n 2, 1) := by decide +kernel
theorem d_Md_clouds_164 : decode M_Md_clouds.2.1 164 = .ok (.isub, 1) := by decide +kernel
theorem d_Md_clouds_165 : decode M_Md_clouds.2.1 165 = .ok (.aload_n 0, 1) := by decide +kernel
theorem d_Md_clouds_166 : decode M_Md_clouds.2.1 166 = .ok (.getfield 66, 3) := by decide +kernel
theorem d_Md_clouds_169 : decode M_Md_clouds.2.1 169 = .ok (.iload 6, 2) := by decide +kernel
theorem d_Md_clouds_171 : decode M_Md_clouds.2.1 171 = .ok (.isub, 1) := by decide +kernel
theorem d_Md_clouds_172 : decode M_Md_clouds.2.1 172 = .ok (.invokestatic 195, 3) := by decide +kernel
theorem d_Md_clouds_175 : decode M_Md_clouds.2.1 175 = .ok (.imul, 1) := by decide +kernel
theorem d_Md_clouds_176 : decode M_Md_clouds.2.1 176 = .ok (.goto 4, 3) := by decide +kernel
theorem d_Md_clouds_179 : decode M_Md_clouds.2.1 179 = .ok (.iconst 0, 1) := by decide +kernel
theorem d_Md_clouds_180 : decode M_Md_clouds.2.1 180 = .ok (.iadd, 1) := by decide +kernel
theorem d_Md_clouds_181 : decode M_Md_clouds.2.1 181 = .ok (.istore 4, 2) := by decide +kernel
theorem d_Md_clouds_183 : decode M_Md_clouds.2.1 183 = .ok (.iinc 5 1, 3) := by decide +kernel
theorem d_Md_clouds_186 : decode M_Md_clouds.2.1 186 = .ok (.goto (-148), 3) := by decide +kernel
theorem d_Md_clouds_189 : decode M_Md_clouds.2.1 189 = .ok (.iload 4, 2) := by decide +kernel
theorem d_Md_clouds_191 : decode M_Md_clouds.2.1 191 = .ok (.bipush 10, 2) := by decide +kernel
theorem d_Md_clouds_193 : decode M_Md_clouds.2.1 193 = .ok (.aload_n 0, 1) := by decide +kernel
theorem d_Md_clouds_194 : decode M_Md_clouds.2.1 194 = .ok (.getfield 66, 3) := by decide +kernel
theorem d_Md_clouds_197 : decode M_Md_clouds.2.1 197 = .ok (.invokestatic 195, 3) := by decide +kernel
theorem d_Md_clouds_200 : decode M_Md_clouds.2.1 200 = .ok (.iload_n 3, 1) := by decide +kernel
theorem d_Md_clouds_201 : decode M_Md_clouds.2.1 201 = .ok (.invokestatic 224, 3) := by decide +kernel
theorem d_Md_clouds_204 : decode M_Md_clouds.2.1 204 = .ok (.ireturn, 1) := by decide +kernel
theorem d_Md_seed_0 : decode M_Md_seed.2.1 0 = .ok (.aload_n 0, 1) := by decide +kernel
theorem d_Md_seed_1 : decode M_Md_seed.2.1 1 = .ok (.iconst 0, 1) := by decide +kernel
theorem d_Md_seed_2 : decode M_Md_seed.2.1 2 = .ok (.putfield 62, 3) := by decide +kernel
theorem d_Md_seed_5 : decode M_Md_seed.2.1 5 = .ok (.aload_n 0, 1) := by decide +kernel
theorem d_Md_seed_6 : decode M_Md_seed.2.1 6 = .ok (.getfield 243, 3) := by decide +kernel
theorem d_Md_seed_9 : decode M_Md_seed.2.1 9 = .ok (.lstore_n 3, 1) := by decide +kernel
theorem d_Md_seed_10 : decode M_Md_seed.2.1 10 = .ok (.aload_n 0, 1) := by decide +kernel
theorem d_Md_seed_11 : decode M_Md_seed.2.1 11 = .ok (.lload_n 1, 1) := by decide +kernel
theorem d_Md_seed_12 : decode M_Md_seed.2.1 12 = .ok (.putfield 243, 3) := by decide +kernel
theorem d_Md_seed_15 : decode M_Md_seed.2.1 15 = .ok (.lload_n 3, 1) := by decide +kernel
theorem d_Md_seed_16 : decode M_Md_seed.2.1 16 = .ok (.lreturn, 1) := by decide +kernel
theorem d_Md_weeks_0 : decode M_Md_weeks.2.1 0 = .ok (.aload_n 0, 1) := by decide +kernel
theorem d_Md_weeks_1 : decode M_Md_weeks.2.1 1 = .ok (.iconst 0, 1) := by decide +kernel
theorem d_Md_weeks_2 : decode M_Md_weeks.2.1 2 = .ok (.putfield 62, 3) := by decide +kernel
theorem d_Md_weeks_5 : decode M_Md_weeks.2.1 5 = .ok (.iload_n 1, 1) := by decide +kernel
theorem d_Md_weeks_6 : decode M_Md_weeks.2.1 6 = .ok (.i2l, 1) := by decide +kernel
theorem d_Md_weeks_7 : decode M_Md_weeks.2.1 7 = .ok (.lconst 1, 1) := by decide +kernel
theorem d_Md_weeks_8 : decode M_Md_weeks.2.1 8 = .ok (.ldc2_w 247, 3) := by decide +kernel
theorem d_Md_weeks_11 : decode M_Md_weeks.2.1 11 = .ok (.invokestatic 69, 3) := by decide +kernel
theorem d_Md_weeks_14 : decode M_Md_weeks.2.1 14 = .ok (.ifCond .ne 6, 3) := by decide +kernel
theorem d_Md_weeks_17 : decode M_Md_weeks.2.1 17 = .ok (.bipush (-2), 2) := by decide +kernel
theorem d_Md_weeks_19 : decode M_Md_weeks.2.1 19 = .ok (.ireturn, 1) := by decide +kernel
theorem d_Md_weeks_20 : decode M_Md_weeks.2.1 20 = .ok (.aload_n 0, 1) := by decide +kernel
theorem d_Md_weeks_21 : decode M_Md_weeks.2.1 21 = .ok (.invokevirtual 180, 3) := by decide +kernel
theorem d_Md_weeks_24 : decode M_Md_weeks.2.1 24 = .ok (.iconst 0, 1) := by decide +kernel
theorem d_Md_weeks_25 : decode M_Md_weeks.2.1 25 = .ok (.istore_n 2, 1) := by decide +kernel
theorem d_Md_weeks_26 : decode M_Md_weeks.2.1 26 = .ok (.iload_n 2, 1) := by decide +kernel
theorem d_Md_weeks_27 : decode M_Md_weeks.2.1 27 = .ok (.iload_n 1, 1) := by decide +kernel
theorem d_Md_weeks_28 : decode M_Md_weeks.2.1 28 = .ok (.if_icmp .ge 94, 3) := by decide +kernel
theorem d_Md_weeks_31 : decode M_Md_weeks.2.1 31 = .ok (.aload_n 0, 1) := by decide +kernel
theorem d_Md_weeks_32 : decode M_Md_weeks.2.1 32 = .ok (.aload_n 0, 1) := by decide +kernel
theorem d_Md_weeks_33 : decode M_Md_weeks.2.1 33 = .ok (.getfield 243, 3) := by decide +kernel
theorem d_Md_weeks_36 : decode M_Md_weeks.2.1 36 = .ok (.ldc2_w 249, 3) := by decide +kernel
theorem d_Md_weeks_39 : decode M_Md_weeks.2.1 39 = .ok (.lmul, 1) := by decide +kernel
theorem d_Md_weeks_40 : decode M_Md_weeks.2.1 40 = .ok (.ldc2_w 251, 3) := by decide +kernel
theorem d_Md_weeks_43 : decode M_Md_weeks.2.1 43 = .ok (.ladd, 1) := by decide +kernel
theorem d_Md_weeks_44 : decode M_Md_weeks.2.1 44 = .ok (.putfield 243, 3) := by decide +kernel
theorem d_Md_weeks_47 : decode M_Md_weeks.2.1 47 = .ok (.aload_n 0, 1) := by decide +kernel
theorem d_Md_weeks_48 : decode M_Md_weeks.2.1 48 = .ok (.getfield 243, 3) := by decide +kernel
theorem d_Md_weeks_51 : decode M_Md_weeks.2.1 51 = .ok (.bipush 33, 2) := by decide +kernel
theorem d_Md_weeks_53 : decode M_Md_weeks.2.1 53 = .ok (.lushr, 1) := by decide +kernel
theorem d_Md_weeks_54 : decode M_Md_weeks.2.1 54 = .ok (.ldc2_w 253, 3) := by decide +kernel
theorem d_Md_weeks_57 : decode M_Md_weeks.2.1 57 = .ok (.lrem, 1) := by decide +kernel
theorem d_Md_weeks_58 : decode M_Md_weeks.2.1 58 = .ok (.l2i, 1) := by decide +kernel
theorem d_Md_weeks_59 : decode M_Md_weeks.2.1 59 = .ok (.istore_n 3, 1) := by decide +kernel
theorem d_Md_weeks_60 : decode M_Md_weeks.2.1 60 = .ok (.iload_n 3, 1) := by decide +kernel
theorem d_Md_weeks_61 : decode M_Md_weeks.2.1 61 = .ok (.bipush 10, 2) := by decide +kernel
theorem d_Md_weeks_63 : decode M_Md_weeks.2.1 63 = .ok (.if_icmp .ge 24, 3) := by decide +kernel
theorem d_Md_weeks_66 : decode M_Md_weeks.2.1 66 = .ok (.aload_n 0, 1) := by decide +kernel
theorem d_Md_weeks_67 : decode M_Md_weeks.2.1 67 = .ok (.bipush 10, 2) := by decide +kernel
theorem d_Md_weeks_69 : decode M_Md_weeks.2.1 69 = .ok (.bipush 10, 2) := by decide +kernel
theorem d_Md_weeks_71 : decode M_Md_weeks.2.1 71 = .ok (.iload_n 3, 1) := by decide +kernel
theorem d_Md_weeks_72 : decode M_Md_weeks.2.1 72 = .ok (.iconst 5, 1) := by decide +kernel
theorem d_Md_weeks_73 : decode M_Md_weeks.2.1 73 = .ok (.idiv, 1) := by decide +kernel
theorem d_Md_weeks_74 : decode M_Md_weeks.2.1 74 = .ok (.imul, 1) := by decide +kernel
theorem d_Md_weeks_75 : decode M_Md_weeks.2.1 75 = .ok (.iadd, 1) := by decide +kernel
theorem d_Md_weeks_76 : decode M_Md_weeks.2.1 76 = .ok (.iload_n 3, 1) := by decide +kernel
theorem d_Md_weeks_77 : decode M_Md_weeks.2.1 77 = .ok (.iconst 5, 1) := by decide +kernel
theorem d_Md_weeks_78 : decode M_Md_weeks.2.1 78 = .ok (.irem, 1) := by decide +kernel
theorem d_Md_weeks_79 : decode M_Md_weeks.2.1 79 = .ok (.iadd, 1) := by decide +kernel
theorem d_Md_weeks_80 : decode M_Md_weeks.2.1 80 = .ok (.invokevirtual 215, 3) := by decide +kernel
theorem d_Md_weeks_83 : decode M_Md_weeks.2.1 83 = .ok (.pop, 1) := by decide +kernel
theorem d_Md_weeks_84 : decode M_Md_weeks.2.1 84 = .ok (.goto 32, 3) := by decide +kernel
theorem d_Md_weeks_87 : decode M_Md_weeks.2.1 87 = .ok (.iload_n 3, 1) := by decide +kernel
theorem d_Md_weeks_88 : decode M_Md_weeks.2.1 88 = .ok (.bipush 13, 2) := by decide +kernel
theorem d_Md_weeks_90 : decode M_Md_weeks.2.1 90 = .ok (.if_icmp .ge 17, 3) := by decide +kernel
theorem d_Md_weeks_93 : decode M_Md_weeks.2.1 93 = .ok (.aload_n 0, 1) := by decide +kernel
theorem d_Md_weeks_94 : decode M_Md_weeks.2.1 94 = .ok (.getfield 28, 3) := by decide +kernel
theorem d_Md_weeks_97 : decode M_Md_weeks.2.1 97 = .ok (.bipush 16, 2) := by decide +kernel
theorem d_Md_weeks_99 : decode M_Md_weeks.2.1 99 = .ok (.iload_n 3, 1) := by decide +kernel
theorem d_Md_weeks_100 : decode M_Md_weeks.2.1 100 = .ok (.bipush 10, 2) := by decide +kernel
theorem d_Md_weeks_102 : decode M_Md_weeks.2.1 102 = .ok (.isub, 1) := by decide +kernel
theorem d_Md_weeks_103 : decode M_Md_weeks.2.1 103 = .ok (.iastore, 1) := by decide +kernel
theorem d_Md_weeks_104 : decode M_Md_weeks.2.1 104 = .ok (.goto 12, 3) := by decide +kernel
theorem d_Md_weeks_107 : decode M_Md_weeks.2.1 107 = .ok (.aload_n 0, 1) := by decide +kernel
theorem d_Md_weeks_108 : decode M_Md_weeks.2.1 108 = .ok (.aload_n 0, 1) := by decide +kernel
theorem d_Md_weeks_109 : decode M_Md_weeks.2.1 109 = .ok (.getfield 28, 3) := by decide +kernel
theorem d_Md_weeks_112 : decode M_Md_weeks.2.1 112 = .ok (.invokevirtual 177, 3) := by decide +kernel
theorem d_Md_weeks_115 : decode M_Md_weeks.2.1 115 = .ok (.pop, 1) := by decide +kernel
theorem d_Md_weeks_116 : decode M_Md_weeks.2.1 116 = .ok (.iinc 2 1, 3) := by decide +kernel
theorem d_Md_weeks_119 : decode M_Md_weeks.2.1 119 = .ok (.goto (-93), 3) := by decide +kernel
theorem d_Md_weeks_122 : decode M_Md_weeks.2.1 122 = .ok (.aload_n 0, 1) := by decide +kernel
theorem d_Md_weeks_123 : decode M_Md_weeks.2.1 123 = .ok (.aload_n 0, 1) := by decide +kernel
theorem d_Md_weeks_124 : decode M_Md_weeks.2.1 124 = .ok (.getfield 28, 3) := by decide +kernel
theorem d_Md_weeks_127 : decode M_Md_weeks.2.1 127 = .ok (.invokevirtual 144, 3) := by decide +kernel
theorem d_Md_weeks_130 : decode M_Md_weeks.2.1 130 = .ok (.aload_n 0, 1) := by decide +kernel
theorem d_Md_weeks_131 : decode M_Md_weeks.2.1 131 = .ok (.aload_n 0, 1) := by decide +kernel
theorem d_Md_weeks_132 : decode M_Md_weeks.2.1 132 = .ok (.getfield 25, 3) := by decide +kernel
theorem d_Md_weeks_135 : decode M_Md_weeks.2.1 135 = .ok (.invokevirtual 144, 3) := by decide +kernel
theorem d_Md_weeks_138 : decode M_Md_weeks.2.1 138 = .ok (.isub, 1) := by decide +kernel
theorem d_Md_weeks_139 : decode M_Md_weeks.2.1 139 = .ok (.ireturn, 1) := by decide +kernel
theorem d_Md_keep_0 : decode M_Md_keep.2.1 0 = .ok (.aload_n 0, 1) := by decide +kernel
theorem d_Md_keep_1 : decode M_Md_keep.2.1 1 = .ok (.iconst 0, 1) := by decide +kernel
theorem d_Md_keep_2 : decode M_Md_keep.2.1 2 = .ok (.putfield 62, 3) := by decide +kernel
theorem d_Md_keep_5 : decode M_Md_keep.2.1 5 = .ok (.iload_n 1, 1) := by decide +kernel
theorem d_Md_keep_6 : decode M_Md_keep.2.1 6 = .ok (.i2l, 1) := by decide +kernel
theorem d_Md_keep_7 : decode M_Md_keep.2.1 7 = .ok (.lconst 0, 1) := by decide +kernel
theorem d_Md_keep_8 : decode M_Md_keep.2.1 8 = .ok (.lconst 1, 1) := by decide +kernel
theorem d_Md_keep_9 : decode M_Md_keep.2.1 9 = .ok (.invokestatic 69, 3) := by decide +kernel
theorem d_Md_keep_12 : decode M_Md_keep.2.1 12 = .ok (.ifCond .ne 5, 3) := by decide +kernel
theorem d_Md_keep_15 : decode M_Md_keep.2.1 15 = .ok (.iconst (-1), 1) := by decide +kernel
theorem d_Md_keep_16 : decode M_Md_keep.2.1 16 = .ok (.ireturn, 1) := by decide +kernel
theorem d_Md_keep_17 : decode M_Md_keep.2.1 17 = .ok (.aload_n 0, 1) := by decide +kernel
theorem d_Md_keep_18 : decode M_Md_keep.2.1 18 = .ok (.getfield 37, 3) := by decide +kernel
theorem d_Md_keep_21 : decode M_Md_keep.2.1 21 = .ok (.iload_n 1, 1) := by decide +kernel
theorem d_Md_keep_22 : decode M_Md_keep.2.1 22 = .ok (.iconst 1, 1) := by decide +kernel
theorem d_Md_keep_23 : decode M_Md_keep.2.1 23 = .ok (.bastore, 1) := by decide +kernel
theorem d_Md_keep_24 : decode M_Md_keep.2.1 24 = .ok (.iconst 0, 1) := by decide +kernel
theorem d_Md_keep_25 : decode M_Md_keep.2.1 25 = .ok (.istore_n 2, 1) := by decide +kernel
theorem d_Md_keep_26 : decode M_Md_keep.2.1 26 = .ok (.iload_n 2, 1) := by decide +kernel
theorem d_Md_keep_27 : decode M_Md_keep.2.1 27 = .ok (.bipush 24, 2) := by decide +kernel
theorem d_Md_keep_29 : decode M_Md_keep.2.1 29 = .ok (.if_icmp .ge 26, 3) := by decide +kernel
theorem d_Md_keep_32 : decode M_Md_keep.2.1 32 = .ok (.aload_n 0, 1) := by decide +kernel
theorem d_Md_keep_33 : decode M_Md_keep.2.1 33 = .ok (.getfield 34, 3) := by decide +kernel
theorem d_Md_keep_36 : decode M_Md_keep.2.1 36 = .ok (.bipush 24, 2) := by decide +kernel
theorem d_Md_keep_38 : decode M_Md_keep.2.1 38 = .ok (.iload_n 1, 1) := by decide +kernel
theorem d_Md_keep_39 : decode M_Md_keep.2.1 39 = .ok (.imul, 1) := by decide +kernel
theorem d_Md_keep_40 : decode M_Md_keep.2.1 40 = .ok (.iload_n 2, 1) := by decide +kernel
theorem d_Md_keep_41 : decode M_Md_keep.2.1 41 = .ok (.iadd, 1) := by decide +kernel
theorem d_Md_keep_42 : decode M_Md_keep.2.1 42 = .ok (.aload_n 0, 1) := by decide +kernel
theorem d_Md_keep_43 : decode M_Md_keep.2.1 43 = .ok (.getfield 25, 3) := by decide +kernel
theorem d_Md_keep_46 : decode M_Md_keep.2.1 46 = .ok (.iload_n 2, 1) := by decide +kernel
theorem d_Md_keep_47 : decode M_Md_keep.2.1 47 = .ok (.iaload, 1) := by decide +kernel
theorem d_Md_keep_48 : decode M_Md_keep.2.1 48 = .ok (.iastore, 1) := by decide +kernel
theorem d_Md_keep_49 : decode M_Md_keep.2.1 49 = .ok (.iinc 2 1, 3) := by decide +kernel
theorem d_Md_keep_52 : decode M_Md_keep.2.1 52 = .ok (.goto (-26), 3) := by decide +kernel
theorem d_Md_keep_55 : decode M_Md_keep.2.1 55 = .ok (.aload_n 0, 1) := by decide +kernel
theorem d_Md_keep_56 : decode M_Md_keep.2.1 56 = .ok (.getfield 25, 3) := by decide +kernel
theorem d_Md_keep_59 : decode M_Md_keep.2.1 59 = .ok (.bipush 18, 2) := by decide +kernel
theorem d_Md_keep_61 : decode M_Md_keep.2.1 61 = .ok (.iaload, 1) := by decide +kernel
theorem d_Md_keep_62 : decode M_Md_keep.2.1 62 = .ok (.ireturn, 1) := by decide +kernel
theorem d_Md_again_0 : decode M_Md_again.2.1 0 = .ok (.aload_n 0, 1) := by decide +kernel
theorem d_Md_again_1 : decode M_Md_again.2.1 1 = .ok (.iconst 0, 1) := by decide +kernel
theorem d_Md_again_2 : decode M_Md_again.2.1 2 = .ok (.putfield 62, 3) := by decide +kernel
theorem d_Md_again_5 : decode M_Md_again.2.1 5 = .ok (.iload_n 1, 1) := by decide +kernel
theorem d_Md_again_6 : decode M_Md_again.2.1 6 = .ok (.i2l, 1) := by decide +kernel
theorem d_Md_again_7 : decode M_Md_again.2.1 7 = .ok (.lconst 0, 1) := by decide +kernel
theorem d_Md_again_8 : decode M_Md_again.2.1 8 = .ok (.lconst 1, 1) := by decide +kernel
theorem d_Md_again_9 : decode M_Md_again.2.1 9 = .ok (.invokestatic 69, 3) := by decide +kernel
theorem d_Md_again_12 : decode M_Md_again.2.1 12 = .ok (.ifCond .ne 5, 3) := by decide +kernel
theorem d_Md_again_15 : decode M_Md_again.2.1 15 = .ok (.iconst (-1), 1) := by decide +kernel
theorem d_Md_again_16 : decode M_Md_again.2.1 16 = .ok (.ireturn, 1) := by decide +kernel
theorem d_Md_again_17 : decode M_Md_again.2.1 17 = .ok (.aload_n 0, 1) := by decide +kernel
theorem d_Md_again_18 : decode M_Md_again.2.1 18 = .ok (.getfield 37, 3) := by decide +kernel
theorem d_Md_again_21 : decode M_Md_again.2.1 21 = .ok (.iload_n 1, 1) := by decide +kernel
theorem d_Md_again_22 : decode M_Md_again.2.1 22 = .ok (.baload, 1) := by decide +kernel
theorem d_Md_again_23 : decode M_Md_again.2.1 23 = .ok (.ifCond .ne 6, 3) := by decide +kernel
theorem d_Md_again_26 : decode M_Md_again.2.1 26 = .ok (.bipush (-3), 2) := by decide +kernel
theorem d_Md_again_28 : decode M_Md_again.2.1 28 = .ok (.ireturn, 1) := by decide +kernel
theorem d_Md_again_29 : decode M_Md_again.2.1 29 = .ok (.iconst 0, 1) := by decide +kernel
theorem d_Md_again_30 : decode M_Md_again.2.1 30 = .ok (.istore_n 2, 1) := by decide +kernel
theorem d_Md_again_31 : decode M_Md_again.2.1 31 = .ok (.iload_n 2, 1) := by decide +kernel
theorem d_Md_again_32 : decode M_Md_again.2.1 32 = .ok (.bipush 24, 2) := by decide +kernel
theorem d_Md_again_34 : decode M_Md_again.2.1 34 = .ok (.if_icmp .ge 26, 3) := by decide +kernel
theorem d_Md_again_37 : decode M_Md_again.2.1 37 = .ok (.aload_n 0, 1) := by decide +kernel
theorem d_Md_again_38 : decode M_Md_again.2.1 38 = .ok (.getfield 25, 3) := by decide +kernel
theorem d_Md_again_41 : decode M_Md_again.2.1 41 = .ok (.iload_n 2, 1) := by decide +kernel
theorem d_Md_again_42 : decode M_Md_again.2.1 42 = .ok (.aload_n 0, 1) := by decide +kernel
theorem d_Md_again_43 : decode M_Md_again.2.1 43 = .ok (.getfield 34, 3) := by decide +kernel
theorem d_Md_again_46 : decode M_Md_again.2.1 46 = .ok (.bipush 24, 2) := by decide +kernel
theorem d_Md_again_48 : decode M_Md_again.2.1 48 = .ok (.iload_n 1, 1) := by decide +kernel
theorem d_Md_again_49 : decode M_Md_again.2.1 49 = .ok (.imul, 1) := by decide +kernel
theorem d_Md_again_50 : decode M_Md_again.2.1 50 = .ok (.iload_n 2, 1) := by decide +kernel
theorem d_Md_again_51 : decode M_Md_again.2.1 51 = .ok (.iadd, 1) := by decide +kernel
theorem d_Md_again_52 : decode M_Md_again.2.1 52 = .ok (.iaload, 1) := by decide +kernel
theorem d_Md_again_53 : decode M_Md_again.2.1 53 = .ok (.iastore, 1) := by decide +kernel
theorem d_Md_again_54 : decode M_Md_again.2.1 54 = .ok (.iinc 2 1, 3) := by decide +kernel
theorem d_Md_again_57 : decode M_Md_again.2.1 57 = .ok (.goto (-26), 3) := by decide +kernel
theorem d_Md_again_60 : decode M_Md_again.2.1 60 = .ok (.aload_n 0, 1) := by decide +kernel
theorem d_Md_again_61 : decode M_Md_again.2.1 61 = .ok (.iconst 0, 1) := by decide +kernel
theorem d_Md_again_62 : decode M_Md_again.2.1 62 = .ok (.putfield 119, 3) := by decide +kernel
theorem d_Md_again_65 : decode M_Md_again.2.1 65 = .ok (.aload_n 0, 1) := by decide +kernel
theorem d_Md_again_66 : decode M_Md_again.2.1 66 = .ok (.getfield 25, 3) := by decide +kernel
theorem d_Md_again_69 : decode M_Md_again.2.1 69 = .ok (.bipush 18, 2) := by decide +kernel
theorem d_Md_again_71 : decode M_Md_again.2.1 71 = .ok (.iaload, 1) := by decide +kernel
theorem d_Md_again_72 : decode M_Md_again.2.1 72 = .ok (.ireturn, 1) := by decide +kernel
