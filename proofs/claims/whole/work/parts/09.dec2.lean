theorem d_Lm_init_0 : decode M_Lm_init.2.1 0 = .ok (.aload_n 0, 1) := by decide +kernel
theorem d_Lm_init_1 : decode M_Lm_init.2.1 1 = .ok (.invokespecial 3, 3) := by decide +kernel
theorem d_Lm_init_4 : decode M_Lm_init.2.1 4 = .ok (.aload_n 0, 1) := by decide +kernel
theorem d_Lm_init_5 : decode M_Lm_init.2.1 5 = .ok (.bipush 56, 2) := by decide +kernel
theorem d_Lm_init_7 : decode M_Lm_init.2.1 7 = .ok (.newarray .int, 2) := by decide +kernel
theorem d_Lm_init_9 : decode M_Lm_init.2.1 9 = .ok (.putfield 9, 3) := by decide +kernel
theorem d_Lm_init_12 : decode M_Lm_init.2.1 12 = .ok (.aload_n 0, 1) := by decide +kernel
theorem d_Lm_init_13 : decode M_Lm_init.2.1 13 = .ok (.iconst 0, 1) := by decide +kernel
theorem d_Lm_init_14 : decode M_Lm_init.2.1 14 = .ok (.putfield 13, 3) := by decide +kernel
theorem d_Lm_init_17 : decode M_Lm_init.2.1 17 = .ok (.aload_n 0, 1) := by decide +kernel
theorem d_Lm_init_18 : decode M_Lm_init.2.1 18 = .ok (.new 17, 3) := by decide +kernel
theorem d_Lm_init_21 : decode M_Lm_init.2.1 21 = .ok (.dup, 1) := by decide +kernel
theorem d_Lm_init_22 : decode M_Lm_init.2.1 22 = .ok (.invokespecial 19, 3) := by decide +kernel
theorem d_Lm_init_25 : decode M_Lm_init.2.1 25 = .ok (.putfield 20, 3) := by decide +kernel
theorem d_Lm_init_28 : decode M_Lm_init.2.1 28 = .ok (.aload_n 0, 1) := by decide +kernel
theorem d_Lm_init_29 : decode M_Lm_init.2.1 29 = .ok (.new 17, 3) := by decide +kernel
theorem d_Lm_init_32 : decode M_Lm_init.2.1 32 = .ok (.dup, 1) := by decide +kernel
theorem d_Lm_init_33 : decode M_Lm_init.2.1 33 = .ok (.invokespecial 19, 3) := by decide +kernel
theorem d_Lm_init_36 : decode M_Lm_init.2.1 36 = .ok (.putfield 24, 3) := by decide +kernel
theorem d_Lm_init_39 : decode M_Lm_init.2.1 39 = .ok (.aload_n 0, 1) := by decide +kernel
theorem d_Lm_init_40 : decode M_Lm_init.2.1 40 = .ok (.new 27, 3) := by decide +kernel
theorem d_Lm_init_43 : decode M_Lm_init.2.1 43 = .ok (.dup, 1) := by decide +kernel
theorem d_Lm_init_44 : decode M_Lm_init.2.1 44 = .ok (.invokespecial 29, 3) := by decide +kernel
theorem d_Lm_init_47 : decode M_Lm_init.2.1 47 = .ok (.putfield 30, 3) := by decide +kernel
theorem d_Lm_init_50 : decode M_Lm_init.2.1 50 = .ok (.aload_n 0, 1) := by decide +kernel
theorem d_Lm_init_51 : decode M_Lm_init.2.1 51 = .ok (.bipush 14, 2) := by decide +kernel
theorem d_Lm_init_53 : decode M_Lm_init.2.1 53 = .ok (.bipush 19, 2) := by decide +kernel
theorem d_Lm_init_55 : decode M_Lm_init.2.1 55 = .ok (.multianewarray 34 2, 4) := by decide +kernel
theorem d_Lm_init_59 : decode M_Lm_init.2.1 59 = .ok (.putfield 36, 3) := by decide +kernel
theorem d_Lm_init_62 : decode M_Lm_init.2.1 62 = .ok (.aload_n 0, 1) := by decide +kernel
theorem d_Lm_init_63 : decode M_Lm_init.2.1 63 = .ok (.iconst 0, 1) := by decide +kernel
theorem d_Lm_init_64 : decode M_Lm_init.2.1 64 = .ok (.putfield 39, 3) := by decide +kernel
theorem d_Lm_init_67 : decode M_Lm_init.2.1 67 = .ok (.aload_n 0, 1) := by decide +kernel
theorem d_Lm_init_68 : decode M_Lm_init.2.1 68 = .ok (.iconst 2, 1) := by decide +kernel
theorem d_Lm_init_69 : decode M_Lm_init.2.1 69 = .ok (.bipush 19, 2) := by decide +kernel
theorem d_Lm_init_71 : decode M_Lm_init.2.1 71 = .ok (.multianewarray 34 2, 4) := by decide +kernel
theorem d_Lm_init_75 : decode M_Lm_init.2.1 75 = .ok (.putfield 42, 3) := by decide +kernel
theorem d_Lm_init_78 : decode M_Lm_init.2.1 78 = .ok (.aload_n 0, 1) := by decide +kernel
theorem d_Lm_init_79 : decode M_Lm_init.2.1 79 = .ok (.iconst 2, 1) := by decide +kernel
theorem d_Lm_init_80 : decode M_Lm_init.2.1 80 = .ok (.newarray .boolean, 2) := by decide +kernel
theorem d_Lm_init_82 : decode M_Lm_init.2.1 82 = .ok (.putfield 45, 3) := by decide +kernel
theorem d_Lm_init_85 : decode M_Lm_init.2.1 85 = .ok (.aload_n 0, 1) := by decide +kernel
theorem d_Lm_init_86 : decode M_Lm_init.2.1 86 = .ok (.bipush 6, 2) := by decide +kernel
theorem d_Lm_init_88 : decode M_Lm_init.2.1 88 = .ok (.newarray .int, 2) := by decide +kernel
theorem d_Lm_init_90 : decode M_Lm_init.2.1 90 = .ok (.putfield 49, 3) := by decide +kernel
theorem d_Lm_init_93 : decode M_Lm_init.2.1 93 = .ok (.aload_n 0, 1) := by decide +kernel
theorem d_Lm_init_94 : decode M_Lm_init.2.1 94 = .ok (.bipush 6, 2) := by decide +kernel
theorem d_Lm_init_96 : decode M_Lm_init.2.1 96 = .ok (.newarray .int, 2) := by decide +kernel
theorem d_Lm_init_98 : decode M_Lm_init.2.1 98 = .ok (.putfield 52, 3) := by decide +kernel
theorem d_Lm_init_101 : decode M_Lm_init.2.1 101 = .ok (.aload_n 0, 1) := by decide +kernel
theorem d_Lm_init_102 : decode M_Lm_init.2.1 102 = .ok (.bipush 6, 2) := by decide +kernel
theorem d_Lm_init_104 : decode M_Lm_init.2.1 104 = .ok (.newarray .int, 2) := by decide +kernel
theorem d_Lm_init_106 : decode M_Lm_init.2.1 106 = .ok (.putfield 55, 3) := by decide +kernel
theorem d_Lm_init_109 : decode M_Lm_init.2.1 109 = .ok (.aload_n 0, 1) := by decide +kernel
theorem d_Lm_init_110 : decode M_Lm_init.2.1 110 = .ok (.iconst 0, 1) := by decide +kernel
theorem d_Lm_init_111 : decode M_Lm_init.2.1 111 = .ok (.putfield 58, 3) := by decide +kernel
theorem d_Lm_init_114 : decode M_Lm_init.2.1 114 = .ok (.aload_n 0, 1) := by decide +kernel
theorem d_Lm_init_115 : decode M_Lm_init.2.1 115 = .ok (.bipush 32, 2) := by decide +kernel
theorem d_Lm_init_117 : decode M_Lm_init.2.1 117 = .ok (.newarray .int, 2) := by decide +kernel
theorem d_Lm_init_119 : decode M_Lm_init.2.1 119 = .ok (.putfield 61, 3) := by decide +kernel
theorem d_Lm_init_122 : decode M_Lm_init.2.1 122 = .ok (.aload_n 0, 1) := by decide +kernel
theorem d_Lm_init_123 : decode M_Lm_init.2.1 123 = .ok (.lconst 0, 1) := by decide +kernel
theorem d_Lm_init_124 : decode M_Lm_init.2.1 124 = .ok (.putfield 64, 3) := by decide +kernel
theorem d_Lm_init_127 : decode M_Lm_init.2.1 127 = .ok (.return_, 1) := by decide +kernel
theorem d_Lm_write_0 : decode M_Lm_write.2.1 0 = .ok (.iload_n 1, 1) := by decide +kernel
theorem d_Lm_write_1 : decode M_Lm_write.2.1 1 = .ok (.ifCond .lt 10, 3) := by decide +kernel
theorem d_Lm_write_4 : decode M_Lm_write.2.1 4 = .ok (.iload_n 1, 1) := by decide +kernel
theorem d_Lm_write_5 : decode M_Lm_write.2.1 5 = .ok (.sipush 255, 3) := by decide +kernel
theorem d_Lm_write_8 : decode M_Lm_write.2.1 8 = .ok (.if_icmp .le 6, 3) := by decide +kernel
theorem d_Lm_write_11 : decode M_Lm_write.2.1 11 = .ok (.bipush (-2), 2) := by decide +kernel
theorem d_Lm_write_13 : decode M_Lm_write.2.1 13 = .ok (.ireturn, 1) := by decide +kernel
theorem d_Lm_write_14 : decode M_Lm_write.2.1 14 = .ok (.aload_n 0, 1) := by decide +kernel
theorem d_Lm_write_15 : decode M_Lm_write.2.1 15 = .ok (.getfield 13, 3) := by decide +kernel
theorem d_Lm_write_18 : decode M_Lm_write.2.1 18 = .ok (.ifCond .lt 12, 3) := by decide +kernel
theorem d_Lm_write_21 : decode M_Lm_write.2.1 21 = .ok (.aload_n 0, 1) := by decide +kernel
theorem d_Lm_write_22 : decode M_Lm_write.2.1 22 = .ok (.getfield 13, 3) := by decide +kernel
theorem d_Lm_write_25 : decode M_Lm_write.2.1 25 = .ok (.bipush 56, 2) := by decide +kernel
theorem d_Lm_write_27 : decode M_Lm_write.2.1 27 = .ok (.if_icmp .lt 6, 3) := by decide +kernel
theorem d_Lm_write_30 : decode M_Lm_write.2.1 30 = .ok (.bipush (-4), 2) := by decide +kernel
theorem d_Lm_write_32 : decode M_Lm_write.2.1 32 = .ok (.ireturn, 1) := by decide +kernel
theorem d_Lm_write_33 : decode M_Lm_write.2.1 33 = .ok (.aload_n 0, 1) := by decide +kernel
theorem d_Lm_write_34 : decode M_Lm_write.2.1 34 = .ok (.getfield 9, 3) := by decide +kernel
theorem d_Lm_write_37 : decode M_Lm_write.2.1 37 = .ok (.aload_n 0, 1) := by decide +kernel
theorem d_Lm_write_38 : decode M_Lm_write.2.1 38 = .ok (.getfield 13, 3) := by decide +kernel
theorem d_Lm_write_41 : decode M_Lm_write.2.1 41 = .ok (.iload_n 1, 1) := by decide +kernel
theorem d_Lm_write_42 : decode M_Lm_write.2.1 42 = .ok (.iastore, 1) := by decide +kernel
theorem d_Lm_write_43 : decode M_Lm_write.2.1 43 = .ok (.aload_n 0, 1) := by decide +kernel
theorem d_Lm_write_44 : decode M_Lm_write.2.1 44 = .ok (.dup, 1) := by decide +kernel
theorem d_Lm_write_45 : decode M_Lm_write.2.1 45 = .ok (.getfield 13, 3) := by decide +kernel
theorem d_Lm_write_48 : decode M_Lm_write.2.1 48 = .ok (.iconst 1, 1) := by decide +kernel
theorem d_Lm_write_49 : decode M_Lm_write.2.1 49 = .ok (.iadd, 1) := by decide +kernel
theorem d_Lm_write_50 : decode M_Lm_write.2.1 50 = .ok (.putfield 13, 3) := by decide +kernel
theorem d_Lm_write_53 : decode M_Lm_write.2.1 53 = .ok (.aload_n 0, 1) := by decide +kernel
theorem d_Lm_write_54 : decode M_Lm_write.2.1 54 = .ok (.getfield 13, 3) := by decide +kernel
theorem d_Lm_write_57 : decode M_Lm_write.2.1 57 = .ok (.ireturn, 1) := by decide +kernel
theorem d_Lm_wipe_0 : decode M_Lm_wipe.2.1 0 = .ok (.aload_n 0, 1) := by decide +kernel
theorem d_Lm_wipe_1 : decode M_Lm_wipe.2.1 1 = .ok (.getfield 13, 3) := by decide +kernel
theorem d_Lm_wipe_4 : decode M_Lm_wipe.2.1 4 = .ok (.istore_n 1, 1) := by decide +kernel
theorem d_Lm_wipe_5 : decode M_Lm_wipe.2.1 5 = .ok (.aload_n 0, 1) := by decide +kernel
theorem d_Lm_wipe_6 : decode M_Lm_wipe.2.1 6 = .ok (.iconst 0, 1) := by decide +kernel
theorem d_Lm_wipe_7 : decode M_Lm_wipe.2.1 7 = .ok (.putfield 13, 3) := by decide +kernel
theorem d_Lm_wipe_10 : decode M_Lm_wipe.2.1 10 = .ok (.iload_n 1, 1) := by decide +kernel
theorem d_Lm_wipe_11 : decode M_Lm_wipe.2.1 11 = .ok (.ireturn, 1) := by decide +kernel
theorem d_Lm_fault_0 : decode M_Lm_fault.2.1 0 = .ok (.aload_n 0, 1) := by decide +kernel
theorem d_Lm_fault_1 : decode M_Lm_fault.2.1 1 = .ok (.aload_n 0, 1) := by decide +kernel
theorem d_Lm_fault_2 : decode M_Lm_fault.2.1 2 = .ok (.getfield 24, 3) := by decide +kernel
theorem d_Lm_fault_5 : decode M_Lm_fault.2.1 5 = .ok (.invokevirtual 68, 3) := by decide +kernel
theorem d_Lm_fault_8 : decode M_Lm_fault.2.1 8 = .ok (.ireturn, 1) := by decide +kernel
theorem d_Lm_street_0 : decode M_Lm_street.2.1 0 = .ok (.aload_n 0, 1) := by decide +kernel
theorem d_Lm_street_1 : decode M_Lm_street.2.1 1 = .ok (.aload_n 0, 1) := by decide +kernel
theorem d_Lm_street_2 : decode M_Lm_street.2.1 2 = .ok (.getfield 24, 3) := by decide +kernel
theorem d_Lm_street_5 : decode M_Lm_street.2.1 5 = .ok (.invokevirtual 68, 3) := by decide +kernel
theorem d_Lm_street_8 : decode M_Lm_street.2.1 8 = .ok (.bipush (-9), 2) := by decide +kernel
theorem d_Lm_street_10 : decode M_Lm_street.2.1 10 = .ok (.if_icmp .eq 6, 3) := by decide +kernel
theorem d_Lm_street_13 : decode M_Lm_street.2.1 13 = .ok (.bipush (-3), 2) := by decide +kernel
theorem d_Lm_street_15 : decode M_Lm_street.2.1 15 = .ok (.ireturn, 1) := by decide +kernel
theorem d_Lm_street_16 : decode M_Lm_street.2.1 16 = .ok (.aload_n 0, 1) := by decide +kernel
theorem d_Lm_street_17 : decode M_Lm_street.2.1 17 = .ok (.getfield 20, 3) := by decide +kernel
theorem d_Lm_street_20 : decode M_Lm_street.2.1 20 = .ok (.aload_n 0, 1) := by decide +kernel
theorem d_Lm_street_21 : decode M_Lm_street.2.1 21 = .ok (.getfield 24, 3) := by decide +kernel
theorem d_Lm_street_24 : decode M_Lm_street.2.1 24 = .ok (.invokevirtual 72, 3) := by decide +kernel
theorem d_Lm_street_27 : decode M_Lm_street.2.1 27 = .ok (.aload_n 0, 1) := by decide +kernel
theorem d_Lm_street_28 : decode M_Lm_street.2.1 28 = .ok (.iconst 0, 1) := by decide +kernel
theorem d_Lm_street_29 : decode M_Lm_street.2.1 29 = .ok (.putfield 39, 3) := by decide +kernel
theorem d_Lm_street_32 : decode M_Lm_street.2.1 32 = .ok (.iconst 0, 1) := by decide +kernel
theorem d_Lm_street_33 : decode M_Lm_street.2.1 33 = .ok (.istore_n 1, 1) := by decide +kernel
theorem d_Lm_street_34 : decode M_Lm_street.2.1 34 = .ok (.iload_n 1, 1) := by decide +kernel
theorem d_Lm_street_35 : decode M_Lm_street.2.1 35 = .ok (.iconst 2, 1) := by decide +kernel
theorem d_Lm_street_36 : decode M_Lm_street.2.1 36 = .ok (.if_icmp .ge 16, 3) := by decide +kernel
theorem d_Lm_street_39 : decode M_Lm_street.2.1 39 = .ok (.aload_n 0, 1) := by decide +kernel
theorem d_Lm_street_40 : decode M_Lm_street.2.1 40 = .ok (.getfield 45, 3) := by decide +kernel
theorem d_Lm_street_43 : decode M_Lm_street.2.1 43 = .ok (.iload_n 1, 1) := by decide +kernel
theorem d_Lm_street_44 : decode M_Lm_street.2.1 44 = .ok (.iconst 0, 1) := by decide +kernel
theorem d_Lm_street_45 : decode M_Lm_street.2.1 45 = .ok (.bastore, 1) := by decide +kernel
theorem d_Lm_street_46 : decode M_Lm_street.2.1 46 = .ok (.iinc 1 1, 3) := by decide +kernel
theorem d_Lm_street_49 : decode M_Lm_street.2.1 49 = .ok (.goto (-15), 3) := by decide +kernel
theorem d_Lm_street_52 : decode M_Lm_street.2.1 52 = .ok (.bipush 10, 2) := by decide +kernel
theorem d_Lm_street_54 : decode M_Lm_street.2.1 54 = .ok (.aload_n 0, 1) := by decide +kernel
theorem d_Lm_street_55 : decode M_Lm_street.2.1 55 = .ok (.getfield 20, 3) := by decide +kernel
theorem d_Lm_street_58 : decode M_Lm_street.2.1 58 = .ok (.getfield 76, 3) := by decide +kernel
theorem d_Lm_street_61 : decode M_Lm_street.2.1 61 = .ok (.imul, 1) := by decide +kernel
theorem d_Lm_street_62 : decode M_Lm_street.2.1 62 = .ok (.aload_n 0, 1) := by decide +kernel
theorem d_Lm_street_63 : decode M_Lm_street.2.1 63 = .ok (.getfield 20, 3) := by decide +kernel
theorem d_Lm_street_66 : decode M_Lm_street.2.1 66 = .ok (.getfield 79, 3) := by decide +kernel
theorem d_Lm_street_69 : decode M_Lm_street.2.1 69 = .ok (.iadd, 1) := by decide +kernel
theorem d_Lm_street_70 : decode M_Lm_street.2.1 70 = .ok (.ireturn, 1) := by decide +kernel
theorem d_Lm_about_0 : decode M_Lm_about.2.1 0 = .ok (.iload_n 1, 1) := by decide +kernel
theorem d_Lm_about_1 : decode M_Lm_about.2.1 1 = .ok (.tableswitch 138 0 10 #[59, 67, 75, 83, 91, 99, 107, 115, 123, 128, 133], 59) := by decide +kernel
theorem d_Lm_about_60 : decode M_Lm_about.2.1 60 = .ok (.aload_n 0, 1) := by decide +kernel
theorem d_Lm_about_61 : decode M_Lm_about.2.1 61 = .ok (.getfield 20, 3) := by decide +kernel
theorem d_Lm_about_64 : decode M_Lm_about.2.1 64 = .ok (.getfield 76, 3) := by decide +kernel
theorem d_Lm_about_67 : decode M_Lm_about.2.1 67 = .ok (.ireturn, 1) := by decide +kernel
theorem d_Lm_about_68 : decode M_Lm_about.2.1 68 = .ok (.aload_n 0, 1) := by decide +kernel
theorem d_Lm_about_69 : decode M_Lm_about.2.1 69 = .ok (.getfield 20, 3) := by decide +kernel
theorem d_Lm_about_72 : decode M_Lm_about.2.1 72 = .ok (.getfield 79, 3) := by decide +kernel
theorem d_Lm_about_75 : decode M_Lm_about.2.1 75 = .ok (.ireturn, 1) := by decide +kernel
theorem d_Lm_about_76 : decode M_Lm_about.2.1 76 = .ok (.aload_n 0, 1) := by decide +kernel
theorem d_Lm_about_77 : decode M_Lm_about.2.1 77 = .ok (.getfield 20, 3) := by decide +kernel
theorem d_Lm_about_80 : decode M_Lm_about.2.1 80 = .ok (.getfield 82, 3) := by decide +kernel
theorem d_Lm_about_83 : decode M_Lm_about.2.1 83 = .ok (.ireturn, 1) := by decide +kernel
theorem d_Lm_about_84 : decode M_Lm_about.2.1 84 = .ok (.aload_n 0, 1) := by decide +kernel
theorem d_Lm_about_85 : decode M_Lm_about.2.1 85 = .ok (.getfield 20, 3) := by decide +kernel
theorem d_Lm_about_88 : decode M_Lm_about.2.1 88 = .ok (.getfield 85, 3) := by decide +kernel
theorem d_Lm_about_91 : decode M_Lm_about.2.1 91 = .ok (.ireturn, 1) := by decide +kernel
theorem d_Lm_about_92 : decode M_Lm_about.2.1 92 = .ok (.aload_n 0, 1) := by decide +kernel
theorem d_Lm_about_93 : decode M_Lm_about.2.1 93 = .ok (.getfield 20, 3) := by decide +kernel
theorem d_Lm_about_96 : decode M_Lm_about.2.1 96 = .ok (.getfield 88, 3) := by decide +kernel
theorem d_Lm_about_99 : decode M_Lm_about.2.1 99 = .ok (.ireturn, 1) := by decide +kernel
theorem d_Lm_about_100 : decode M_Lm_about.2.1 100 = .ok (.aload_n 0, 1) := by decide +kernel
theorem d_Lm_about_101 : decode M_Lm_about.2.1 101 = .ok (.getfield 20, 3) := by decide +kernel
theorem d_Lm_about_104 : decode M_Lm_about.2.1 104 = .ok (.invokevirtual 91, 3) := by decide +kernel
theorem d_Lm_about_107 : decode M_Lm_about.2.1 107 = .ok (.ireturn, 1) := by decide +kernel
theorem d_Lm_about_108 : decode M_Lm_about.2.1 108 = .ok (.aload_n 0, 1) := by decide +kernel
theorem d_Lm_about_109 : decode M_Lm_about.2.1 109 = .ok (.getfield 20, 3) := by decide +kernel
theorem d_Lm_about_112 : decode M_Lm_about.2.1 112 = .ok (.invokevirtual 95, 3) := by decide +kernel
theorem d_Lm_about_115 : decode M_Lm_about.2.1 115 = .ok (.ireturn, 1) := by decide +kernel
theorem d_Lm_about_116 : decode M_Lm_about.2.1 116 = .ok (.aload_n 0, 1) := by decide +kernel
theorem d_Lm_about_117 : decode M_Lm_about.2.1 117 = .ok (.getfield 20, 3) := by decide +kernel
theorem d_Lm_about_120 : decode M_Lm_about.2.1 120 = .ok (.invokevirtual 98, 3) := by decide +kernel
theorem d_Lm_about_123 : decode M_Lm_about.2.1 123 = .ok (.ireturn, 1) := by decide +kernel
theorem d_Lm_about_124 : decode M_Lm_about.2.1 124 = .ok (.aload_n 0, 1) := by decide +kernel
theorem d_Lm_about_125 : decode M_Lm_about.2.1 125 = .ok (.getfield 39, 3) := by decide +kernel
theorem d_Lm_about_128 : decode M_Lm_about.2.1 128 = .ok (.ireturn, 1) := by decide +kernel
theorem d_Lm_about_129 : decode M_Lm_about.2.1 129 = .ok (.aload_n 0, 1) := by decide +kernel
theorem d_Lm_about_130 : decode M_Lm_about.2.1 130 = .ok (.getfield 58, 3) := by decide +kernel
theorem d_Lm_about_133 : decode M_Lm_about.2.1 133 = .ok (.ireturn, 1) := by decide +kernel
theorem d_Lm_about_134 : decode M_Lm_about.2.1 134 = .ok (.aload_n 0, 1) := by decide +kernel
theorem d_Lm_about_135 : decode M_Lm_about.2.1 135 = .ok (.getfield 13, 3) := by decide +kernel
theorem d_Lm_about_138 : decode M_Lm_about.2.1 138 = .ok (.ireturn, 1) := by decide +kernel
theorem d_Lm_about_139 : decode M_Lm_about.2.1 139 = .ok (.bipush (-2), 2) := by decide +kernel
theorem d_Lm_about_141 : decode M_Lm_about.2.1 141 = .ok (.ireturn, 1) := by decide +kernel
theorem d_Lm_window_0 : decode M_Lm_window.2.1 0 = .ok (.aload_n 0, 1) := by decide +kernel
theorem d_Lm_window_1 : decode M_Lm_window.2.1 1 = .ok (.getfield 20, 3) := by decide +kernel
theorem d_Lm_window_4 : decode M_Lm_window.2.1 4 = .ok (.iload_n 1, 1) := by decide +kernel
theorem d_Lm_window_5 : decode M_Lm_window.2.1 5 = .ok (.invokevirtual 101, 3) := by decide +kernel
theorem d_Lm_window_8 : decode M_Lm_window.2.1 8 = .ok (.ifCond .ne 5, 3) := by decide +kernel
theorem d_Lm_window_11 : decode M_Lm_window.2.1 11 = .ok (.iconst (-1), 1) := by decide +kernel
theorem d_Lm_window_12 : decode M_Lm_window.2.1 12 = .ok (.ireturn, 1) := by decide +kernel
theorem d_Lm_window_13 : decode M_Lm_window.2.1 13 = .ok (.iload_n 2, 1) := by decide +kernel
theorem d_Lm_window_14 : decode M_Lm_window.2.1 14 = .ok (.tableswitch 117 0 6 #[42, 52, 62, 72, 81, 91, 100], 42) := by decide +kernel
theorem d_Lm_window_56 : decode M_Lm_window.2.1 56 = .ok (.aload_n 0, 1) := by decide +kernel
theorem d_Lm_window_57 : decode M_Lm_window.2.1 57 = .ok (.getfield 20, 3) := by decide +kernel
theorem d_Lm_window_60 : decode M_Lm_window.2.1 60 = .ok (.getfield 105, 3) := by decide +kernel
theorem d_Lm_window_63 : decode M_Lm_window.2.1 63 = .ok (.iload_n 1, 1) := by decide +kernel
theorem d_Lm_window_64 : decode M_Lm_window.2.1 64 = .ok (.iaload, 1) := by decide +kernel
theorem d_Lm_window_65 : decode M_Lm_window.2.1 65 = .ok (.ireturn, 1) := by decide +kernel
theorem d_Lm_window_66 : decode M_Lm_window.2.1 66 = .ok (.aload_n 0, 1) := by decide +kernel
theorem d_Lm_window_67 : decode M_Lm_window.2.1 67 = .ok (.getfield 20, 3) := by decide +kernel
theorem d_Lm_window_70 : decode M_Lm_window.2.1 70 = .ok (.getfield 108, 3) := by decide +kernel
theorem d_Lm_window_73 : decode M_Lm_window.2.1 73 = .ok (.iload_n 1, 1) := by decide +kernel
theorem d_Lm_window_74 : decode M_Lm_window.2.1 74 = .ok (.iaload, 1) := by decide +kernel
theorem d_Lm_window_75 : decode M_Lm_window.2.1 75 = .ok (.ireturn, 1) := by decide +kernel
theorem d_Lm_window_76 : decode M_Lm_window.2.1 76 = .ok (.aload_n 0, 1) := by decide +kernel
theorem d_Lm_window_77 : decode M_Lm_window.2.1 77 = .ok (.getfield 20, 3) := by decide +kernel
theorem d_Lm_window_80 : decode M_Lm_window.2.1 80 = .ok (.getfield 111, 3) := by decide +kernel
theorem d_Lm_window_83 : decode M_Lm_window.2.1 83 = .ok (.iload_n 1, 1) := by decide +kernel
theorem d_Lm_window_84 : decode M_Lm_window.2.1 84 = .ok (.iaload, 1) := by decide +kernel
theorem d_Lm_window_85 : decode M_Lm_window.2.1 85 = .ok (.ireturn, 1) := by decide +kernel
theorem d_Lm_window_86 : decode M_Lm_window.2.1 86 = .ok (.aload_n 0, 1) := by decide +kernel
theorem d_Lm_window_87 : decode M_Lm_window.2.1 87 = .ok (.getfield 20, 3) := by decide +kernel
theorem d_Lm_window_90 : decode M_Lm_window.2.1 90 = .ok (.iload_n 1, 1) := by decide +kernel
theorem d_Lm_window_91 : decode M_Lm_window.2.1 91 = .ok (.invokevirtual 114, 3) := by decide +kernel
theorem d_Lm_window_94 : decode M_Lm_window.2.1 94 = .ok (.ireturn, 1) := by decide +kernel
theorem d_Lm_window_95 : decode M_Lm_window.2.1 95 = .ok (.aload_n 0, 1) := by decide +kernel
theorem d_Lm_window_96 : decode M_Lm_window.2.1 96 = .ok (.getfield 20, 3) := by decide +kernel
theorem d_Lm_window_99 : decode M_Lm_window.2.1 99 = .ok (.getfield 118, 3) := by decide +kernel
theorem d_Lm_window_102 : decode M_Lm_window.2.1 102 = .ok (.iload_n 1, 1) := by decide +kernel
theorem d_Lm_window_103 : decode M_Lm_window.2.1 103 = .ok (.iaload, 1) := by decide +kernel
theorem d_Lm_window_104 : decode M_Lm_window.2.1 104 = .ok (.ireturn, 1) := by decide +kernel
theorem d_Lm_window_105 : decode M_Lm_window.2.1 105 = .ok (.aload_n 0, 1) := by decide +kernel
theorem d_Lm_window_106 : decode M_Lm_window.2.1 106 = .ok (.getfield 20, 3) := by decide +kernel
theorem d_Lm_window_109 : decode M_Lm_window.2.1 109 = .ok (.iload_n 1, 1) := by decide +kernel
theorem d_Lm_window_110 : decode M_Lm_window.2.1 110 = .ok (.invokevirtual 121, 3) := by decide +kernel
theorem d_Lm_window_113 : decode M_Lm_window.2.1 113 = .ok (.ireturn, 1) := by decide +kernel
theorem d_Lm_window_114 : decode M_Lm_window.2.1 114 = .ok (.aload_n 0, 1) := by decide +kernel
theorem d_Lm_window_115 : decode M_Lm_window.2.1 115 = .ok (.getfield 20, 3) := by decide +kernel
theorem d_Lm_window_118 : decode M_Lm_window.2.1 118 = .ok (.iload_n 1, 1) := by decide +kernel
theorem d_Lm_window_119 : decode M_Lm_window.2.1 119 = .ok (.invokevirtual 124, 3) := by decide +kernel
theorem d_Lm_window_122 : decode M_Lm_window.2.1 122 = .ok (.ifCond .eq 7, 3) := by decide +kernel
theorem d_Lm_window_125 : decode M_Lm_window.2.1 125 = .ok (.iconst 1, 1) := by decide +kernel
theorem d_Lm_window_126 : decode M_Lm_window.2.1 126 = .ok (.goto 4, 3) := by decide +kernel
theorem d_Lm_window_129 : decode M_Lm_window.2.1 129 = .ok (.iconst 0, 1) := by decide +kernel
theorem d_Lm_window_130 : decode M_Lm_window.2.1 130 = .ok (.ireturn, 1) := by decide +kernel
theorem d_Lm_window_131 : decode M_Lm_window.2.1 131 = .ok (.bipush (-2), 2) := by decide +kernel
theorem d_Lm_window_133 : decode M_Lm_window.2.1 133 = .ok (.ireturn, 1) := by decide +kernel
theorem d_Lm_moth_0 : decode M_Lm_moth.2.1 0 = .ok (.aload_n 0, 1) := by decide +kernel
theorem d_Lm_moth_1 : decode M_Lm_moth.2.1 1 = .ok (.getfield 20, 3) := by decide +kernel
theorem d_Lm_moth_4 : decode M_Lm_moth.2.1 4 = .ok (.iload_n 1, 1) := by decide +kernel
theorem d_Lm_moth_5 : decode M_Lm_moth.2.1 5 = .ok (.invokevirtual 127, 3) := by decide +kernel
theorem d_Lm_moth_8 : decode M_Lm_moth.2.1 8 = .ok (.ifCond .ne 5, 3) := by decide +kernel
theorem d_Lm_moth_11 : decode M_Lm_moth.2.1 11 = .ok (.iconst (-1), 1) := by decide +kernel
theorem d_Lm_moth_12 : decode M_Lm_moth.2.1 12 = .ok (.ireturn, 1) := by decide +kernel
theorem d_Lm_moth_13 : decode M_Lm_moth.2.1 13 = .ok (.iload_n 2, 1) := by decide +kernel
theorem d_Lm_moth_14 : decode M_Lm_moth.2.1 14 = .ok (.tableswitch 68 0 3 #[30, 40, 50, 59], 30) := by decide +kernel
theorem d_Lm_moth_44 : decode M_Lm_moth.2.1 44 = .ok (.aload_n 0, 1) := by decide +kernel
theorem d_Lm_moth_45 : decode M_Lm_moth.2.1 45 = .ok (.getfield 20, 3) := by decide +kernel
theorem d_Lm_moth_48 : decode M_Lm_moth.2.1 48 = .ok (.getfield 130, 3) := by decide +kernel
theorem d_Lm_moth_51 : decode M_Lm_moth.2.1 51 = .ok (.iload_n 1, 1) := by decide +kernel
theorem d_Lm_moth_52 : decode M_Lm_moth.2.1 52 = .ok (.iaload, 1) := by decide +kernel
theorem d_Lm_moth_53 : decode M_Lm_moth.2.1 53 = .ok (.ireturn, 1) := by decide +kernel
theorem d_Lm_moth_54 : decode M_Lm_moth.2.1 54 = .ok (.aload_n 0, 1) := by decide +kernel
theorem d_Lm_moth_55 : decode M_Lm_moth.2.1 55 = .ok (.getfield 20, 3) := by decide +kernel
theorem d_Lm_moth_58 : decode M_Lm_moth.2.1 58 = .ok (.getfield 133, 3) := by decide +kernel
theorem d_Lm_moth_61 : decode M_Lm_moth.2.1 61 = .ok (.iload_n 1, 1) := by decide +kernel
theorem d_Lm_moth_62 : decode M_Lm_moth.2.1 62 = .ok (.iaload, 1) := by decide +kernel
theorem d_Lm_moth_63 : decode M_Lm_moth.2.1 63 = .ok (.ireturn, 1) := by decide +kernel
theorem d_Lm_moth_64 : decode M_Lm_moth.2.1 64 = .ok (.aload_n 0, 1) := by decide +kernel
theorem d_Lm_moth_65 : decode M_Lm_moth.2.1 65 = .ok (.getfield 20, 3) := by decide +kernel
theorem d_Lm_moth_68 : decode M_Lm_moth.2.1 68 = .ok (.iload_n 1, 1) := by decide +kernel
theorem d_Lm_moth_69 : decode M_Lm_moth.2.1 69 = .ok (.invokevirtual 136, 3) := by decide +kernel
theorem d_Lm_moth_72 : decode M_Lm_moth.2.1 72 = .ok (.ireturn, 1) := by decide +kernel
theorem d_Lm_moth_73 : decode M_Lm_moth.2.1 73 = .ok (.aload_n 0, 1) := by decide +kernel
theorem d_Lm_moth_74 : decode M_Lm_moth.2.1 74 = .ok (.getfield 20, 3) := by decide +kernel
theorem d_Lm_moth_77 : decode M_Lm_moth.2.1 77 = .ok (.iload_n 1, 1) := by decide +kernel
theorem d_Lm_moth_78 : decode M_Lm_moth.2.1 78 = .ok (.invokevirtual 139, 3) := by decide +kernel
theorem d_Lm_moth_81 : decode M_Lm_moth.2.1 81 = .ok (.ireturn, 1) := by decide +kernel
theorem d_Lm_moth_82 : decode M_Lm_moth.2.1 82 = .ok (.bipush (-2), 2) := by decide +kernel
theorem d_Lm_moth_84 : decode M_Lm_moth.2.1 84 = .ok (.ireturn, 1) := by decide +kernel
theorem d_Lm_pull_0 : decode M_Lm_pull.2.1 0 = .ok (.aload_n 0, 1) := by decide +kernel
theorem d_Lm_pull_1 : decode M_Lm_pull.2.1 1 = .ok (.getfield 20, 3) := by decide +kernel
theorem d_Lm_pull_4 : decode M_Lm_pull.2.1 4 = .ok (.iload_n 1, 1) := by decide +kernel
theorem d_Lm_pull_5 : decode M_Lm_pull.2.1 5 = .ok (.invokevirtual 101, 3) := by decide +kernel
theorem d_Lm_pull_8 : decode M_Lm_pull.2.1 8 = .ok (.ifCond .eq 14, 3) := by decide +kernel
theorem d_Lm_pull_11 : decode M_Lm_pull.2.1 11 = .ok (.aload_n 0, 1) := by decide +kernel
theorem d_Lm_pull_12 : decode M_Lm_pull.2.1 12 = .ok (.getfield 20, 3) := by decide +kernel
theorem d_Lm_pull_15 : decode M_Lm_pull.2.1 15 = .ok (.iload_n 2, 1) := by decide +kernel
theorem d_Lm_pull_16 : decode M_Lm_pull.2.1 16 = .ok (.invokevirtual 127, 3) := by decide +kernel
theorem d_Lm_pull_19 : decode M_Lm_pull.2.1 19 = .ok (.ifCond .ne 5, 3) := by decide +kernel
theorem d_Lm_pull_22 : decode M_Lm_pull.2.1 22 = .ok (.iconst (-1), 1) := by decide +kernel
theorem d_Lm_pull_23 : decode M_Lm_pull.2.1 23 = .ok (.ireturn, 1) := by decide +kernel
theorem d_Lm_pull_24 : decode M_Lm_pull.2.1 24 = .ok (.aload_n 0, 1) := by decide +kernel
theorem d_Lm_pull_25 : decode M_Lm_pull.2.1 25 = .ok (.getfield 20, 3) := by decide +kernel
theorem d_Lm_pull_28 : decode M_Lm_pull.2.1 28 = .ok (.iload_n 1, 1) := by decide +kernel
theorem d_Lm_pull_29 : decode M_Lm_pull.2.1 29 = .ok (.iload_n 2, 1) := by decide +kernel
theorem d_Lm_pull_30 : decode M_Lm_pull.2.1 30 = .ok (.invokevirtual 142, 3) := by decide +kernel
theorem d_Lm_pull_33 : decode M_Lm_pull.2.1 33 = .ok (.ireturn, 1) := by decide +kernel
theorem d_Lm_up_0 : decode M_Lm_up.2.1 0 = .ok (.aload_n 0, 1) := by decide +kernel
theorem d_Lm_up_1 : decode M_Lm_up.2.1 1 = .ok (.iload_n 1, 1) := by decide +kernel
theorem d_Lm_up_2 : decode M_Lm_up.2.1 2 = .ok (.iconst 1, 1) := by decide +kernel
theorem d_Lm_up_3 : decode M_Lm_up.2.1 3 = .ok (.invokevirtual 146, 3) := by decide +kernel
theorem d_Lm_up_6 : decode M_Lm_up.2.1 6 = .ok (.ireturn, 1) := by decide +kernel
theorem d_Lm_down_0 : decode M_Lm_down.2.1 0 = .ok (.aload_n 0, 1) := by decide +kernel
theorem d_Lm_down_1 : decode M_Lm_down.2.1 1 = .ok (.iload_n 1, 1) := by decide +kernel
theorem d_Lm_down_2 : decode M_Lm_down.2.1 2 = .ok (.iconst (-1), 1) := by decide +kernel
theorem d_Lm_down_3 : decode M_Lm_down.2.1 3 = .ok (.invokevirtual 146, 3) := by decide +kernel
theorem d_Lm_down_6 : decode M_Lm_down.2.1 6 = .ok (.ireturn, 1) := by decide +kernel
theorem d_Lm_blow_0 : decode M_Lm_blow.2.1 0 = .ok (.iload_n 1, 1) := by decide +kernel
theorem d_Lm_blow_1 : decode M_Lm_blow.2.1 1 = .ok (.invokestatic 149, 3) := by decide +kernel
theorem d_Lm_blow_4 : decode M_Lm_blow.2.1 4 = .ok (.ifCond .ne 6, 3) := by decide +kernel
theorem d_Lm_blow_7 : decode M_Lm_blow.2.1 7 = .ok (.bipush (-2), 2) := by decide +kernel
theorem d_Lm_blow_9 : decode M_Lm_blow.2.1 9 = .ok (.ireturn, 1) := by decide +kernel
theorem d_Lm_blow_10 : decode M_Lm_blow.2.1 10 = .ok (.aload_n 0, 1) := by decide +kernel
theorem d_Lm_blow_11 : decode M_Lm_blow.2.1 11 = .ok (.getfield 20, 3) := by decide +kernel
theorem d_Lm_blow_14 : decode M_Lm_blow.2.1 14 = .ok (.getfield 82, 3) := by decide +kernel
theorem d_Lm_blow_17 : decode M_Lm_blow.2.1 17 = .ok (.iload_n 1, 1) := by decide +kernel
theorem d_Lm_blow_18 : decode M_Lm_blow.2.1 18 = .ok (.if_icmp .ne 6, 3) := by decide +kernel
theorem d_Lm_blow_21 : decode M_Lm_blow.2.1 21 = .ok (.bipush (-3), 2) := by decide +kernel
theorem d_Lm_blow_23 : decode M_Lm_blow.2.1 23 = .ok (.ireturn, 1) := by decide +kernel
theorem d_Lm_blow_24 : decode M_Lm_blow.2.1 24 = .ok (.aload_n 0, 1) := by decide +kernel
theorem d_Lm_blow_25 : decode M_Lm_blow.2.1 25 = .ok (.invokevirtual 152, 3) := by decide +kernel
theorem d_Lm_blow_28 : decode M_Lm_blow.2.1 28 = .ok (.aload_n 0, 1) := by decide +kernel
theorem d_Lm_blow_29 : decode M_Lm_blow.2.1 29 = .ok (.getfield 20, 3) := by decide +kernel
theorem d_Lm_blow_32 : decode M_Lm_blow.2.1 32 = .ok (.getfield 82, 3) := by decide +kernel
theorem d_Lm_blow_35 : decode M_Lm_blow.2.1 35 = .ok (.istore_n 2, 1) := by decide +kernel
theorem d_Lm_blow_36 : decode M_Lm_blow.2.1 36 = .ok (.aload_n 0, 1) := by decide +kernel
theorem d_Lm_blow_37 : decode M_Lm_blow.2.1 37 = .ok (.getfield 20, 3) := by decide +kernel
theorem d_Lm_blow_40 : decode M_Lm_blow.2.1 40 = .ok (.iload_n 1, 1) := by decide +kernel
theorem d_Lm_blow_41 : decode M_Lm_blow.2.1 41 = .ok (.putfield 82, 3) := by decide +kernel
theorem d_Lm_blow_44 : decode M_Lm_blow.2.1 44 = .ok (.iload_n 2, 1) := by decide +kernel
theorem d_Lm_blow_45 : decode M_Lm_blow.2.1 45 = .ok (.ireturn, 1) := by decide +kernel
theorem d_Lm_move_0 : decode M_Lm_move.2.1 0 = .ok (.iload_n 1, 1) := by decide +kernel
theorem d_Lm_move_1 : decode M_Lm_move.2.1 1 = .ok (.invokestatic 155, 3) := by decide +kernel
theorem d_Lm_move_4 : decode M_Lm_move.2.1 4 = .ok (.ifCond .ne 6, 3) := by decide +kernel
theorem d_Lm_move_7 : decode M_Lm_move.2.1 7 = .ok (.bipush (-2), 2) := by decide +kernel
theorem d_Lm_move_9 : decode M_Lm_move.2.1 9 = .ok (.ireturn, 1) := by decide +kernel
theorem d_Lm_move_10 : decode M_Lm_move.2.1 10 = .ok (.aload_n 0, 1) := by decide +kernel
theorem d_Lm_move_11 : decode M_Lm_move.2.1 11 = .ok (.getfield 20, 3) := by decide +kernel
theorem d_Lm_move_14 : decode M_Lm_move.2.1 14 = .ok (.getfield 85, 3) := by decide +kernel
theorem d_Lm_move_17 : decode M_Lm_move.2.1 17 = .ok (.iload_n 1, 1) := by decide +kernel
theorem d_Lm_move_18 : decode M_Lm_move.2.1 18 = .ok (.if_icmp .ne 6, 3) := by decide +kernel
theorem d_Lm_move_21 : decode M_Lm_move.2.1 21 = .ok (.bipush (-3), 2) := by decide +kernel
theorem d_Lm_move_23 : decode M_Lm_move.2.1 23 = .ok (.ireturn, 1) := by decide +kernel
theorem d_Lm_move_24 : decode M_Lm_move.2.1 24 = .ok (.aload_n 0, 1) := by decide +kernel
theorem d_Lm_move_25 : decode M_Lm_move.2.1 25 = .ok (.invokevirtual 152, 3) := by decide +kernel
theorem d_Lm_move_28 : decode M_Lm_move.2.1 28 = .ok (.aload_n 0, 1) := by decide +kernel
theorem d_Lm_move_29 : decode M_Lm_move.2.1 29 = .ok (.getfield 20, 3) := by decide +kernel
theorem d_Lm_move_32 : decode M_Lm_move.2.1 32 = .ok (.getfield 85, 3) := by decide +kernel
theorem d_Lm_move_35 : decode M_Lm_move.2.1 35 = .ok (.istore_n 2, 1) := by decide +kernel
theorem d_Lm_move_36 : decode M_Lm_move.2.1 36 = .ok (.aload_n 0, 1) := by decide +kernel
theorem d_Lm_move_37 : decode M_Lm_move.2.1 37 = .ok (.getfield 20, 3) := by decide +kernel
theorem d_Lm_move_40 : decode M_Lm_move.2.1 40 = .ok (.iload_n 1, 1) := by decide +kernel
theorem d_Lm_move_41 : decode M_Lm_move.2.1 41 = .ok (.putfield 85, 3) := by decide +kernel
theorem d_Lm_move_44 : decode M_Lm_move.2.1 44 = .ok (.iload_n 2, 1) := by decide +kernel
theorem d_Lm_move_45 : decode M_Lm_move.2.1 45 = .ok (.ireturn, 1) := by decide +kernel
theorem d_Lm_night_0 : decode M_Lm_night.2.1 0 = .ok (.aload_n 0, 1) := by decide +kernel
theorem d_Lm_night_1 : decode M_Lm_night.2.1 1 = .ok (.invokevirtual 152, 3) := by decide +kernel
theorem d_Lm_night_4 : decode M_Lm_night.2.1 4 = .ok (.aload_n 0, 1) := by decide +kernel
theorem d_Lm_night_5 : decode M_Lm_night.2.1 5 = .ok (.getfield 20, 3) := by decide +kernel
theorem d_Lm_night_8 : decode M_Lm_night.2.1 8 = .ok (.invokevirtual 158, 3) := by decide +kernel
theorem d_Lm_night_11 : decode M_Lm_night.2.1 11 = .ok (.ireturn, 1) := by decide +kernel
theorem d_Lm_undo_0 : decode M_Lm_undo.2.1 0 = .ok (.aload_n 0, 1) := by decide +kernel
theorem d_Lm_undo_1 : decode M_Lm_undo.2.1 1 = .ok (.getfield 39, 3) := by decide +kernel
theorem d_Lm_undo_4 : decode M_Lm_undo.2.1 4 = .ok (.iconst 1, 1) := by decide +kernel
theorem d_Lm_undo_5 : decode M_Lm_undo.2.1 5 = .ok (.if_icmp .lt 12, 3) := by decide +kernel
theorem d_Lm_undo_8 : decode M_Lm_undo.2.1 8 = .ok (.aload_n 0, 1) := by decide +kernel
theorem d_Lm_undo_9 : decode M_Lm_undo.2.1 9 = .ok (.getfield 39, 3) := by decide +kernel
theorem d_Lm_undo_12 : decode M_Lm_undo.2.1 12 = .ok (.bipush 14, 2) := by decide +kernel
theorem d_Lm_undo_14 : decode M_Lm_undo.2.1 14 = .ok (.if_icmp .le 6, 3) := by decide +kernel
theorem d_Lm_undo_17 : decode M_Lm_undo.2.1 17 = .ok (.bipush (-3), 2) := by decide +kernel
theorem d_Lm_undo_19 : decode M_Lm_undo.2.1 19 = .ok (.ireturn, 1) := by decide +kernel
theorem d_Lm_undo_20 : decode M_Lm_undo.2.1 20 = .ok (.aload_n 0, 1) := by decide +kernel
theorem d_Lm_undo_21 : decode M_Lm_undo.2.1 21 = .ok (.dup, 1) := by decide +kernel
theorem d_Lm_undo_22 : decode M_Lm_undo.2.1 22 = .ok (.getfield 39, 3) := by decide +kernel
theorem d_Lm_undo_25 : decode M_Lm_undo.2.1 25 = .ok (.iconst 1, 1) := by decide +kernel
theorem d_Lm_undo_26 : decode M_Lm_undo.2.1 26 = .ok (.isub, 1) := by decide +kernel
theorem d_Lm_undo_27 : decode M_Lm_undo.2.1 27 = .ok (.putfield 39, 3) := by decide +kernel
theorem d_Lm_undo_30 : decode M_Lm_undo.2.1 30 = .ok (.aload_n 0, 1) := by decide +kernel
theorem d_Lm_undo_31 : decode M_Lm_undo.2.1 31 = .ok (.getfield 20, 3) := by decide +kernel
theorem d_Lm_undo_34 : decode M_Lm_undo.2.1 34 = .ok (.aload_n 0, 1) := by decide +kernel
theorem d_Lm_undo_35 : decode M_Lm_undo.2.1 35 = .ok (.getfield 36, 3) := by decide +kernel
theorem d_Lm_undo_38 : decode M_Lm_undo.2.1 38 = .ok (.aload_n 0, 1) := by decide +kernel
theorem d_Lm_undo_39 : decode M_Lm_undo.2.1 39 = .ok (.getfield 39, 3) := by decide +kernel
theorem d_Lm_undo_42 : decode M_Lm_undo.2.1 42 = .ok (.aaload, 1) := by decide +kernel
theorem d_Lm_undo_43 : decode M_Lm_undo.2.1 43 = .ok (.invokevirtual 161, 3) := by decide +kernel
theorem d_Lm_undo_46 : decode M_Lm_undo.2.1 46 = .ok (.aload_n 0, 1) := by decide +kernel
theorem d_Lm_undo_47 : decode M_Lm_undo.2.1 47 = .ok (.getfield 39, 3) := by decide +kernel
theorem d_Lm_undo_50 : decode M_Lm_undo.2.1 50 = .ok (.ireturn, 1) := by decide +kernel
theorem d_Lm_dim_0 : decode M_Lm_dim.2.1 0 = .ok (.aload_n 0, 1) := by decide +kernel
theorem d_Lm_dim_1 : decode M_Lm_dim.2.1 1 = .ok (.getfield 20, 3) := by decide +kernel
theorem d_Lm_dim_4 : decode M_Lm_dim.2.1 4 = .ok (.iload_n 1, 1) := by decide +kernel
theorem d_Lm_dim_5 : decode M_Lm_dim.2.1 5 = .ok (.invokevirtual 101, 3) := by decide +kernel
theorem d_Lm_dim_8 : decode M_Lm_dim.2.1 8 = .ok (.ifCond .ne 5, 3) := by decide +kernel
theorem d_Lm_dim_11 : decode M_Lm_dim.2.1 11 = .ok (.iconst (-1), 1) := by decide +kernel
theorem d_Lm_dim_12 : decode M_Lm_dim.2.1 12 = .ok (.ireturn, 1) := by decide +kernel
theorem d_Lm_dim_13 : decode M_Lm_dim.2.1 13 = .ok (.iload_n 2, 1) := by decide +kernel
theorem d_Lm_dim_14 : decode M_Lm_dim.2.1 14 = .ok (.invokestatic 165, 3) := by decide +kernel
theorem d_Lm_dim_17 : decode M_Lm_dim.2.1 17 = .ok (.ifCond .ne 6, 3) := by decide +kernel
theorem d_Lm_dim_20 : decode M_Lm_dim.2.1 20 = .ok (.bipush (-2), 2) := by decide +kernel
theorem d_Lm_dim_22 : decode M_Lm_dim.2.1 22 = .ok (.ireturn, 1) := by decide +kernel
theorem d_Lm_dim_23 : decode M_Lm_dim.2.1 23 = .ok (.aload_n 0, 1) := by decide +kernel
theorem d_Lm_dim_24 : decode M_Lm_dim.2.1 24 = .ok (.getfield 20, 3) := by decide +kernel
theorem d_Lm_dim_27 : decode M_Lm_dim.2.1 27 = .ok (.getfield 108, 3) := by decide +kernel
theorem d_Lm_dim_30 : decode M_Lm_dim.2.1 30 = .ok (.iload_n 1, 1) := by decide +kernel
theorem d_Lm_dim_31 : decode M_Lm_dim.2.1 31 = .ok (.iaload, 1) := by decide +kernel
theorem d_Lm_dim_32 : decode M_Lm_dim.2.1 32 = .ok (.istore_n 3, 1) := by decide +kernel
theorem d_Lm_dim_33 : decode M_Lm_dim.2.1 33 = .ok (.iconst 0, 1) := by decide +kernel
theorem d_Lm_dim_34 : decode M_Lm_dim.2.1 34 = .ok (.istore 4, 2) := by decide +kernel
theorem d_Lm_dim_36 : decode M_Lm_dim.2.1 36 = .ok (.iload 4, 2) := by decide +kernel
theorem d_Lm_dim_38 : decode M_Lm_dim.2.1 38 = .ok (.bipush 9, 2) := by decide +kernel
theorem d_Lm_dim_40 : decode M_Lm_dim.2.1 40 = .ok (.if_icmp .gt 44, 3) := by decide +kernel
theorem d_Lm_dim_43 : decode M_Lm_dim.2.1 43 = .ok (.aload_n 0, 1) := by decide +kernel
theorem d_Lm_dim_44 : decode M_Lm_dim.2.1 44 = .ok (.iload_n 1, 1) := by decide +kernel
theorem d_Lm_dim_45 : decode M_Lm_dim.2.1 45 = .ok (.iload_n 3, 1) := by decide +kernel
theorem d_Lm_dim_46 : decode M_Lm_dim.2.1 46 = .ok (.iload 4, 2) := by decide +kernel
theorem d_Lm_dim_48 : decode M_Lm_dim.2.1 48 = .ok (.isub, 1) := by decide +kernel
theorem d_Lm_dim_49 : decode M_Lm_dim.2.1 49 = .ok (.iload_n 2, 1) := by decide +kernel
theorem d_Lm_dim_50 : decode M_Lm_dim.2.1 50 = .ok (.invokevirtual 168, 3) := by decide +kernel
theorem d_Lm_dim_53 : decode M_Lm_dim.2.1 53 = .ok (.ifCond .eq 6, 3) := by decide +kernel
theorem d_Lm_dim_56 : decode M_Lm_dim.2.1 56 = .ok (.iload 4, 2) := by decide +kernel
theorem d_Lm_dim_58 : decode M_Lm_dim.2.1 58 = .ok (.ireturn, 1) := by decide +kernel
theorem d_Lm_dim_59 : decode M_Lm_dim.2.1 59 = .ok (.aload_n 0, 1) := by decide +kernel
theorem d_Lm_dim_60 : decode M_Lm_dim.2.1 60 = .ok (.iload_n 1, 1) := by decide +kernel
theorem d_Lm_dim_61 : decode M_Lm_dim.2.1 61 = .ok (.iload_n 3, 1) := by decide +kernel
theorem d_Lm_dim_62 : decode M_Lm_dim.2.1 62 = .ok (.iload 4, 2) := by decide +kernel
theorem d_Lm_dim_64 : decode M_Lm_dim.2.1 64 = .ok (.iadd, 1) := by decide +kernel
theorem d_Lm_dim_65 : decode M_Lm_dim.2.1 65 = .ok (.iload_n 2, 1) := by decide +kernel
theorem d_Lm_dim_66 : decode M_Lm_dim.2.1 66 = .ok (.invokevirtual 168, 3) := by decide +kernel
theorem d_Lm_dim_69 : decode M_Lm_dim.2.1 69 = .ok (.ifCond .eq 9, 3) := by decide +kernel
theorem d_Lm_dim_72 : decode M_Lm_dim.2.1 72 = .ok (.bipush 10, 2) := by decide +kernel
theorem d_Lm_dim_74 : decode M_Lm_dim.2.1 74 = .ok (.iload 4, 2) := by decide +kernel
theorem d_Lm_dim_76 : decode M_Lm_dim.2.1 76 = .ok (.iadd, 1) := by decide +kernel
theorem d_Lm_dim_77 : decode M_Lm_dim.2.1 77 = .ok (.ireturn, 1) := by decide +kernel
theorem d_Lm_dim_78 : decode M_Lm_dim.2.1 78 = .ok (.iinc 4 1, 3) := by decide +kernel
theorem d_Lm_dim_81 : decode M_Lm_dim.2.1 81 = .ok (.goto (-45), 3) := by decide +kernel
theorem d_Lm_dim_84 : decode M_Lm_dim.2.1 84 = .ok (.bipush (-9), 2) := by decide +kernel
theorem d_Lm_dim_86 : decode M_Lm_dim.2.1 86 = .ok (.ireturn, 1) := by decide +kernel
theorem d_Lm_cheap_0 : decode M_Lm_cheap.2.1 0 = .ok (.aload_n 0, 1) := by decide +kernel
theorem d_Lm_cheap_1 : decode M_Lm_cheap.2.1 1 = .ok (.getfield 20, 3) := by decide +kernel
theorem d_Lm_cheap_4 : decode M_Lm_cheap.2.1 4 = .ok (.getfield 76, 3) := by decide +kernel
theorem d_Lm_cheap_7 : decode M_Lm_cheap.2.1 7 = .ok (.iconst 1, 1) := by decide +kernel
theorem d_Lm_cheap_8 : decode M_Lm_cheap.2.1 8 = .ok (.if_icmp .ge 6, 3) := by decide +kernel
theorem d_Lm_cheap_11 : decode M_Lm_cheap.2.1 11 = .ok (.bipush (-9), 2) := by decide +kernel
theorem d_Lm_cheap_13 : decode M_Lm_cheap.2.1 13 = .ok (.ireturn, 1) := by decide +kernel
theorem d_Lm_cheap_14 : decode M_Lm_cheap.2.1 14 = .ok (.aload_n 0, 1) := by decide +kernel
theorem d_Lm_cheap_15 : decode M_Lm_cheap.2.1 15 = .ok (.getfield 24, 3) := by decide +kernel
theorem d_Lm_cheap_18 : decode M_Lm_cheap.2.1 18 = .ok (.aload_n 0, 1) := by decide +kernel
theorem d_Lm_cheap_19 : decode M_Lm_cheap.2.1 19 = .ok (.getfield 20, 3) := by decide +kernel
theorem d_Lm_cheap_22 : decode M_Lm_cheap.2.1 22 = .ok (.invokevirtual 72, 3) := by decide +kernel
theorem d_Lm_cheap_25 : decode M_Lm_cheap.2.1 25 = .ok (.bipush (-9), 2) := by decide +kernel
theorem d_Lm_cheap_27 : decode M_Lm_cheap.2.1 27 = .ok (.istore_n 2, 1) := by decide +kernel
theorem d_Lm_cheap_28 : decode M_Lm_cheap.2.1 28 = .ok (.bipush (-9), 2) := by decide +kernel
theorem d_Lm_cheap_30 : decode M_Lm_cheap.2.1 30 = .ok (.istore_n 3, 1) := by decide +kernel
theorem d_Lm_cheap_31 : decode M_Lm_cheap.2.1 31 = .ok (.iconst 3, 1) := by decide +kernel
theorem d_Lm_cheap_32 : decode M_Lm_cheap.2.1 32 = .ok (.aload_n 0, 1) := by decide +kernel
theorem d_Lm_cheap_33 : decode M_Lm_cheap.2.1 33 = .ok (.getfield 20, 3) := by decide +kernel
theorem d_Lm_cheap_36 : decode M_Lm_cheap.2.1 36 = .ok (.getfield 76, 3) := by decide +kernel
theorem d_Lm_cheap_39 : decode M_Lm_cheap.2.1 39 = .ok (.invokestatic 172, 3) := by decide +kernel
theorem d_Lm_cheap_42 : decode M_Lm_cheap.2.1 42 = .ok (.istore 4, 2) := by decide +kernel
theorem d_Lm_cheap_44 : decode M_Lm_cheap.2.1 44 = .ok (.iconst 0, 1) := by decide +kernel
theorem d_Lm_cheap_45 : decode M_Lm_cheap.2.1 45 = .ok (.istore 5, 2) := by decide +kernel
theorem d_Lm_cheap_47 : decode M_Lm_cheap.2.1 47 = .ok (.iload 5, 2) := by decide +kernel
theorem d_Lm_cheap_49 : decode M_Lm_cheap.2.1 49 = .ok (.iload 4, 2) := by decide +kernel
theorem d_Lm_cheap_51 : decode M_Lm_cheap.2.1 51 = .ok (.if_icmp .ge 60, 3) := by decide +kernel
theorem d_Lm_cheap_54 : decode M_Lm_cheap.2.1 54 = .ok (.aload_n 0, 1) := by decide +kernel
theorem d_Lm_cheap_55 : decode M_Lm_cheap.2.1 55 = .ok (.getfield 24, 3) := by decide +kernel
theorem d_Lm_cheap_58 : decode M_Lm_cheap.2.1 58 = .ok (.iload 5, 2) := by decide +kernel
theorem d_Lm_cheap_60 : decode M_Lm_cheap.2.1 60 = .ok (.invokevirtual 175, 3) := by decide +kernel
theorem d_Lm_cheap_63 : decode M_Lm_cheap.2.1 63 = .ok (.aload_n 0, 1) := by decide +kernel
theorem d_Lm_cheap_64 : decode M_Lm_cheap.2.1 64 = .ok (.getfield 24, 3) := by decide +kernel
theorem d_Lm_cheap_67 : decode M_Lm_cheap.2.1 67 = .ok (.invokevirtual 179, 3) := by decide +kernel
theorem d_Lm_cheap_70 : decode M_Lm_cheap.2.1 70 = .ok (.ifCond .eq 35, 3) := by decide +kernel
theorem d_Lm_cheap_73 : decode M_Lm_cheap.2.1 73 = .ok (.aload_n 0, 1) := by decide +kernel
theorem d_Lm_cheap_74 : decode M_Lm_cheap.2.1 74 = .ok (.getfield 24, 3) := by decide +kernel
theorem d_Lm_cheap_77 : decode M_Lm_cheap.2.1 77 = .ok (.invokevirtual 95, 3) := by decide +kernel
theorem d_Lm_cheap_80 : decode M_Lm_cheap.2.1 80 = .ok (.istore 6, 2) := by decide +kernel
theorem d_Lm_cheap_82 : decode M_Lm_cheap.2.1 82 = .ok (.iload_n 3, 1) := by decide +kernel
theorem d_Lm_cheap_83 : decode M_Lm_cheap.2.1 83 = .ok (.bipush (-9), 2) := by decide +kernel
theorem d_Lm_cheap_85 : decode M_Lm_cheap.2.1 85 = .ok (.if_icmp .eq 9, 3) := by decide +kernel
theorem d_Lm_cheap_88 : decode M_Lm_cheap.2.1 88 = .ok (.iload 6, 2) := by decide +kernel
theorem d_Lm_cheap_90 : decode M_Lm_cheap.2.1 90 = .ok (.iload_n 2, 1) := by decide +kernel
theorem d_Lm_cheap_91 : decode M_Lm_cheap.2.1 91 = .ok (.if_icmp .ge 14, 3) := by decide +kernel
theorem d_Lm_cheap_94 : decode M_Lm_cheap.2.1 94 = .ok (.iload 6, 2) := by decide +kernel
theorem d_Lm_cheap_96 : decode M_Lm_cheap.2.1 96 = .ok (.istore_n 2, 1) := by decide +kernel
theorem d_Lm_cheap_97 : decode M_Lm_cheap.2.1 97 = .ok (.aload_n 0, 1) := by decide +kernel
theorem d_Lm_cheap_98 : decode M_Lm_cheap.2.1 98 = .ok (.getfield 24, 3) := by decide +kernel
theorem d_Lm_cheap_101 : decode M_Lm_cheap.2.1 101 = .ok (.invokevirtual 183, 3) := by decide +kernel
theorem d_Lm_cheap_104 : decode M_Lm_cheap.2.1 104 = .ok (.istore_n 3, 1) := by decide +kernel
theorem d_Lm_cheap_105 : decode M_Lm_cheap.2.1 105 = .ok (.iinc 5 1, 3) := by decide +kernel
theorem d_Lm_cheap_108 : decode M_Lm_cheap.2.1 108 = .ok (.goto (-61), 3) := by decide +kernel
theorem d_Lm_cheap_111 : decode M_Lm_cheap.2.1 111 = .ok (.iload_n 1, 1) := by decide +kernel
theorem d_Lm_cheap_112 : decode M_Lm_cheap.2.1 112 = .ok (.ifCond .eq 7, 3) := by decide +kernel
theorem d_Lm_cheap_115 : decode M_Lm_cheap.2.1 115 = .ok (.iload_n 3, 1) := by decide +kernel
theorem d_Lm_cheap_116 : decode M_Lm_cheap.2.1 116 = .ok (.goto 4, 3) := by decide +kernel
theorem d_Lm_cheap_119 : decode M_Lm_cheap.2.1 119 = .ok (.iload_n 2, 1) := by decide +kernel
theorem d_Lm_cheap_120 : decode M_Lm_cheap.2.1 120 = .ok (.ireturn, 1) := by decide +kernel
theorem d_Lm_moving_0 : decode M_Lm_moving.2.1 0 = .ok (.iload_n 1, 1) := by decide +kernel
theorem d_Lm_moving_1 : decode M_Lm_moving.2.1 1 = .ok (.ifCond .lt 8, 3) := by decide +kernel
theorem d_Lm_moving_4 : decode M_Lm_moving.2.1 4 = .ok (.iload_n 1, 1) := by decide +kernel
theorem d_Lm_moving_5 : decode M_Lm_moving.2.1 5 = .ok (.iconst 1, 1) := by decide +kernel
theorem d_Lm_moving_6 : decode M_Lm_moving.2.1 6 = .ok (.if_icmp .le 6, 3) := by decide +kernel
theorem d_Lm_moving_9 : decode M_Lm_moving.2.1 9 = .ok (.bipush (-2), 2) := by decide +kernel
theorem d_Lm_moving_11 : decode M_Lm_moving.2.1 11 = .ok (.ireturn, 1) := by decide +kernel
theorem d_Lm_moving_12 : decode M_Lm_moving.2.1 12 = .ok (.aload_n 0, 1) := by decide +kernel
theorem d_Lm_moving_13 : decode M_Lm_moving.2.1 13 = .ok (.getfield 24, 3) := by decide +kernel
theorem d_Lm_moving_16 : decode M_Lm_moving.2.1 16 = .ok (.aload_n 0, 1) := by decide +kernel
theorem d_Lm_moving_17 : decode M_Lm_moving.2.1 17 = .ok (.getfield 20, 3) := by decide +kernel
theorem d_Lm_moving_20 : decode M_Lm_moving.2.1 20 = .ok (.invokevirtual 72, 3) := by decide +kernel
theorem d_Lm_moving_23 : decode M_Lm_moving.2.1 23 = .ok (.bipush (-9), 2) := by decide +kernel
theorem d_Lm_moving_25 : decode M_Lm_moving.2.1 25 = .ok (.istore_n 2, 1) := by decide +kernel
theorem d_Lm_moving_26 : decode M_Lm_moving.2.1 26 = .ok (.bipush (-9), 2) := by decide +kernel
theorem d_Lm_moving_28 : decode M_Lm_moving.2.1 28 = .ok (.istore_n 3, 1) := by decide +kernel
theorem d_Lm_moving_29 : decode M_Lm_moving.2.1 29 = .ok (.iconst 0, 1) := by decide +kernel
theorem d_Lm_moving_30 : decode M_Lm_moving.2.1 30 = .ok (.istore 4, 2) := by decide +kernel
theorem d_Lm_moving_32 : decode M_Lm_moving.2.1 32 = .ok (.iload 4, 2) := by decide +kernel
theorem d_Lm_moving_34 : decode M_Lm_moving.2.1 34 = .ok (.aload_n 0, 1) := by decide +kernel
theorem d_Lm_moving_35 : decode M_Lm_moving.2.1 35 = .ok (.getfield 20, 3) := by decide +kernel
theorem d_Lm_moving_38 : decode M_Lm_moving.2.1 38 = .ok (.getfield 76, 3) := by decide +kernel
theorem d_Lm_moving_41 : decode M_Lm_moving.2.1 41 = .ok (.if_icmp .ge 102, 3) := by decide +kernel
theorem d_Lm_moving_44 : decode M_Lm_moving.2.1 44 = .ok (.iconst 0, 1) := by decide +kernel
theorem d_Lm_moving_45 : decode M_Lm_moving.2.1 45 = .ok (.istore 5, 2) := by decide +kernel
theorem d_Lm_moving_47 : decode M_Lm_moving.2.1 47 = .ok (.iload 5, 2) := by decide +kernel
theorem d_Lm_moving_49 : decode M_Lm_moving.2.1 49 = .ok (.bipush 9, 2) := by decide +kernel
theorem d_Lm_moving_51 : decode M_Lm_moving.2.1 51 = .ok (.if_icmp .ge 66, 3) := by decide +kernel
theorem d_Lm_moving_54 : decode M_Lm_moving.2.1 54 = .ok (.aload_n 0, 1) := by decide +kernel
theorem d_Lm_moving_55 : decode M_Lm_moving.2.1 55 = .ok (.getfield 20, 3) := by decide +kernel
theorem d_Lm_moving_58 : decode M_Lm_moving.2.1 58 = .ok (.iload 5, 2) := by decide +kernel
theorem d_Lm_moving_60 : decode M_Lm_moving.2.1 60 = .ok (.invokevirtual 186, 3) := by decide +kernel
theorem d_Lm_moving_63 : decode M_Lm_moving.2.1 63 = .ok (.ifCond .eq 48, 3) := by decide +kernel
theorem d_Lm_moving_66 : decode M_Lm_moving.2.1 66 = .ok (.aload_n 0, 1) := by decide +kernel
theorem d_Lm_moving_67 : decode M_Lm_moving.2.1 67 = .ok (.getfield 24, 3) := by decide +kernel
theorem d_Lm_moving_70 : decode M_Lm_moving.2.1 70 = .ok (.getfield 105, 3) := by decide +kernel
theorem d_Lm_moving_73 : decode M_Lm_moving.2.1 73 = .ok (.iload 4, 2) := by decide +kernel
theorem d_Lm_moving_75 : decode M_Lm_moving.2.1 75 = .ok (.iload 5, 2) := by decide +kernel
theorem d_Lm_moving_77 : decode M_Lm_moving.2.1 77 = .ok (.iastore, 1) := by decide +kernel
theorem d_Lm_moving_78 : decode M_Lm_moving.2.1 78 = .ok (.aload_n 0, 1) := by decide +kernel
theorem d_Lm_moving_79 : decode M_Lm_moving.2.1 79 = .ok (.getfield 24, 3) := by decide +kernel
theorem d_Lm_moving_82 : decode M_Lm_moving.2.1 82 = .ok (.invokevirtual 95, 3) := by decide +kernel
theorem d_Lm_moving_85 : decode M_Lm_moving.2.1 85 = .ok (.istore 6, 2) := by decide +kernel
theorem d_Lm_moving_87 : decode M_Lm_moving.2.1 87 = .ok (.iload_n 3, 1) := by decide +kernel
theorem d_Lm_moving_88 : decode M_Lm_moving.2.1 88 = .ok (.bipush (-9), 2) := by decide +kernel
theorem d_Lm_moving_90 : decode M_Lm_moving.2.1 90 = .ok (.if_icmp .eq 9, 3) := by decide +kernel
theorem d_Lm_moving_93 : decode M_Lm_moving.2.1 93 = .ok (.iload 6, 2) := by decide +kernel
theorem d_Lm_moving_95 : decode M_Lm_moving.2.1 95 = .ok (.iload_n 2, 1) := by decide +kernel
theorem d_Lm_moving_96 : decode M_Lm_moving.2.1 96 = .ok (.if_icmp .ge 15, 3) := by decide +kernel
theorem d_Lm_moving_99 : decode M_Lm_moving.2.1 99 = .ok (.iload 6, 2) := by decide +kernel
theorem d_Lm_moving_101 : decode M_Lm_moving.2.1 101 = .ok (.istore_n 2, 1) := by decide +kernel
theorem d_Lm_moving_102 : decode M_Lm_moving.2.1 102 = .ok (.bipush 10, 2) := by decide +kernel
theorem d_Lm_moving_104 : decode M_Lm_moving.2.1 104 = .ok (.iload 4, 2) := by decide +kernel
theorem d_Lm_moving_106 : decode M_Lm_moving.2.1 106 = .ok (.imul, 1) := by decide +kernel
theorem d_Lm_moving_107 : decode M_Lm_moving.2.1 107 = .ok (.iload 5, 2) := by decide +kernel
theorem d_Lm_moving_109 : decode M_Lm_moving.2.1 109 = .ok (.iadd, 1) := by decide +kernel
theorem d_Lm_moving_110 : decode M_Lm_moving.2.1 110 = .ok (.istore_n 3, 1) := by decide +kernel
theorem d_Lm_moving_111 : decode M_Lm_moving.2.1 111 = .ok (.iinc 5 1, 3) := by decide +kernel
theorem d_Lm_moving_114 : decode M_Lm_moving.2.1 114 = .ok (.goto (-67), 3) := by decide +kernel
theorem d_Lm_moving_117 : decode M_Lm_moving.2.1 117 = .ok (.aload_n 0, 1) := by decide +kernel
theorem d_Lm_moving_118 : decode M_Lm_moving.2.1 118 = .ok (.getfield 24, 3) := by decide +kernel
theorem d_Lm_moving_121 : decode M_Lm_moving.2.1 121 = .ok (.getfield 105, 3) := by decide +kernel
theorem d_Lm_moving_124 : decode M_Lm_moving.2.1 124 = .ok (.iload 4, 2) := by decide +kernel
theorem d_Lm_moving_126 : decode M_Lm_moving.2.1 126 = .ok (.aload_n 0, 1) := by decide +kernel
theorem d_Lm_moving_127 : decode M_Lm_moving.2.1 127 = .ok (.getfield 20, 3) := by decide +kernel
theorem d_Lm_moving_130 : decode M_Lm_moving.2.1 130 = .ok (.getfield 105, 3) := by decide +kernel
theorem d_Lm_moving_133 : decode M_Lm_moving.2.1 133 = .ok (.iload 4, 2) := by decide +kernel
theorem d_Lm_moving_135 : decode M_Lm_moving.2.1 135 = .ok (.iaload, 1) := by decide +kernel
theorem d_Lm_moving_136 : decode M_Lm_moving.2.1 136 = .ok (.iastore, 1) := by decide +kernel
theorem d_Lm_moving_137 : decode M_Lm_moving.2.1 137 = .ok (.iinc 4 1, 3) := by decide +kernel
theorem d_Lm_moving_140 : decode M_Lm_moving.2.1 140 = .ok (.goto (-108), 3) := by decide +kernel
theorem d_Lm_moving_143 : decode M_Lm_moving.2.1 143 = .ok (.iload_n 1, 1) := by decide +kernel
theorem d_Lm_moving_144 : decode M_Lm_moving.2.1 144 = .ok (.ifCond .ne 7, 3) := by decide +kernel
theorem d_Lm_moving_147 : decode M_Lm_moving.2.1 147 = .ok (.iload_n 3, 1) := by decide +kernel
theorem d_Lm_moving_148 : decode M_Lm_moving.2.1 148 = .ok (.goto 4, 3) := by decide +kernel
theorem d_Lm_moving_151 : decode M_Lm_moving.2.1 151 = .ok (.iload_n 2, 1) := by decide +kernel
theorem d_Lm_moving_152 : decode M_Lm_moving.2.1 152 = .ok (.ireturn, 1) := by decide +kernel
theorem d_Lm_judge_0 : decode M_Lm_judge.2.1 0 = .ok (.iload_n 1, 1) := by decide +kernel
theorem d_Lm_judge_1 : decode M_Lm_judge.2.1 1 = .ok (.iconst 1, 1) := by decide +kernel
theorem d_Lm_judge_2 : decode M_Lm_judge.2.1 2 = .ok (.if_icmp .lt 8, 3) := by decide +kernel
theorem d_Lm_judge_5 : decode M_Lm_judge.2.1 5 = .ok (.iload_n 1, 1) := by decide +kernel
theorem d_Lm_judge_6 : decode M_Lm_judge.2.1 6 = .ok (.iconst 4, 1) := by decide +kernel
theorem d_Lm_judge_7 : decode M_Lm_judge.2.1 7 = .ok (.if_icmp .le 6, 3) := by decide +kernel
theorem d_Lm_judge_10 : decode M_Lm_judge.2.1 10 = .ok (.bipush (-2), 2) := by decide +kernel
theorem d_Lm_judge_12 : decode M_Lm_judge.2.1 12 = .ok (.ireturn, 1) := by decide +kernel
theorem d_Lm_judge_13 : decode M_Lm_judge.2.1 13 = .ok (.bipush 100, 2) := by decide +kernel
theorem d_Lm_judge_15 : decode M_Lm_judge.2.1 15 = .ok (.iload_n 1, 1) := by decide +kernel
theorem d_Lm_judge_16 : decode M_Lm_judge.2.1 16 = .ok (.invokestatic 172, 3) := by decide +kernel
theorem d_Lm_judge_19 : decode M_Lm_judge.2.1 19 = .ok (.istore_n 3, 1) := by decide +kernel
theorem d_Lm_judge_20 : decode M_Lm_judge.2.1 20 = .ok (.iload_n 2, 1) := by decide +kernel
theorem d_Lm_judge_21 : decode M_Lm_judge.2.1 21 = .ok (.ifCond .lt 8, 3) := by decide +kernel
theorem d_Lm_judge_24 : decode M_Lm_judge.2.1 24 = .ok (.iload_n 2, 1) := by decide +kernel
theorem d_Lm_judge_25 : decode M_Lm_judge.2.1 25 = .ok (.iload_n 3, 1) := by decide +kernel
theorem d_Lm_judge_26 : decode M_Lm_judge.2.1 26 = .ok (.if_icmp .lt 6, 3) := by decide +kernel
theorem d_Lm_judge_29 : decode M_Lm_judge.2.1 29 = .ok (.bipush (-2), 2) := by decide +kernel
theorem d_Lm_judge_31 : decode M_Lm_judge.2.1 31 = .ok (.ireturn, 1) := by decide +kernel
theorem d_Lm_judge_32 : decode M_Lm_judge.2.1 32 = .ok (.aload_n 0, 1) := by decide +kernel
theorem d_Lm_judge_33 : decode M_Lm_judge.2.1 33 = .ok (.getfield 24, 3) := by decide +kernel
theorem d_Lm_judge_36 : decode M_Lm_judge.2.1 36 = .ok (.aload_n 0, 1) := by decide +kernel
theorem d_Lm_judge_37 : decode M_Lm_judge.2.1 37 = .ok (.getfield 20, 3) := by decide +kernel
theorem d_Lm_judge_40 : decode M_Lm_judge.2.1 40 = .ok (.invokevirtual 72, 3) := by decide +kernel
theorem d_Lm_judge_43 : decode M_Lm_judge.2.1 43 = .ok (.iload_n 3, 1) := by decide +kernel
theorem d_Lm_judge_44 : decode M_Lm_judge.2.1 44 = .ok (.istore 4, 2) := by decide +kernel
theorem d_Lm_judge_46 : decode M_Lm_judge.2.1 46 = .ok (.iconst 0, 1) := by decide +kernel
theorem d_Lm_judge_47 : decode M_Lm_judge.2.1 47 = .ok (.istore 5, 2) := by decide +kernel
theorem d_Lm_judge_49 : decode M_Lm_judge.2.1 49 = .ok (.iload 5, 2) := by decide +kernel
theorem d_Lm_judge_51 : decode M_Lm_judge.2.1 51 = .ok (.iload_n 1, 1) := by decide +kernel
theorem d_Lm_judge_52 : decode M_Lm_judge.2.1 52 = .ok (.if_icmp .ge 54, 3) := by decide +kernel
theorem d_Lm_judge_55 : decode M_Lm_judge.2.1 55 = .ok (.iload 4, 2) := by decide +kernel
theorem d_Lm_judge_57 : decode M_Lm_judge.2.1 57 = .ok (.bipush 100, 2) := by decide +kernel
theorem d_Lm_judge_59 : decode M_Lm_judge.2.1 59 = .ok (.idiv, 1) := by decide +kernel
theorem d_Lm_judge_60 : decode M_Lm_judge.2.1 60 = .ok (.istore 4, 2) := by decide +kernel
theorem d_Lm_judge_62 : decode M_Lm_judge.2.1 62 = .ok (.iload 4, 2) := by decide +kernel
theorem d_Lm_judge_64 : decode M_Lm_judge.2.1 64 = .ok (.ifCond .le 13, 3) := by decide +kernel
theorem d_Lm_judge_67 : decode M_Lm_judge.2.1 67 = .ok (.iload_n 2, 1) := by decide +kernel
theorem d_Lm_judge_68 : decode M_Lm_judge.2.1 68 = .ok (.iload 4, 2) := by decide +kernel
theorem d_Lm_judge_70 : decode M_Lm_judge.2.1 70 = .ok (.idiv, 1) := by decide +kernel
theorem d_Lm_judge_71 : decode M_Lm_judge.2.1 71 = .ok (.bipush 100, 2) := by decide +kernel
theorem d_Lm_judge_73 : decode M_Lm_judge.2.1 73 = .ok (.irem, 1) := by decide +kernel
theorem d_Lm_judge_74 : decode M_Lm_judge.2.1 74 = .ok (.goto 4, 3) := by decide +kernel
theorem d_Lm_judge_77 : decode M_Lm_judge.2.1 77 = .ok (.iconst 0, 1) := by decide +kernel
theorem d_Lm_judge_78 : decode M_Lm_judge.2.1 78 = .ok (.istore 6, 2) := by decide +kernel
theorem d_Lm_judge_80 : decode M_Lm_judge.2.1 80 = .ok (.aload_n 0, 1) := by decide +kernel
theorem d_Lm_judge_81 : decode M_Lm_judge.2.1 81 = .ok (.iload 6, 2) := by decide +kernel
theorem d_Lm_judge_83 : decode M_Lm_judge.2.1 83 = .ok (.bipush 10, 2) := by decide +kernel
theorem d_Lm_judge_85 : decode M_Lm_judge.2.1 85 = .ok (.idiv, 1) := by decide +kernel
theorem d_Lm_judge_86 : decode M_Lm_judge.2.1 86 = .ok (.iload 6, 2) := by decide +kernel
theorem d_Lm_judge_88 : decode M_Lm_judge.2.1 88 = .ok (.bipush 10, 2) := by decide +kernel
theorem d_Lm_judge_90 : decode M_Lm_judge.2.1 90 = .ok (.irem, 1) := by decide +kernel
theorem d_Lm_judge_91 : decode M_Lm_judge.2.1 91 = .ok (.invokevirtual 189, 3) := by decide +kernel
theorem d_Lm_judge_94 : decode M_Lm_judge.2.1 94 = .ok (.ifCond .ne 6, 3) := by decide +kernel
theorem d_Lm_judge_97 : decode M_Lm_judge.2.1 97 = .ok (.iload 5, 2) := by decide +kernel
theorem d_Lm_judge_99 : decode M_Lm_judge.2.1 99 = .ok (.ireturn, 1) := by decide +kernel
theorem d_Lm_judge_100 : decode M_Lm_judge.2.1 100 = .ok (.iinc 5 1, 3) := by decide +kernel
theorem d_Lm_judge_103 : decode M_Lm_judge.2.1 103 = .ok (.goto (-54), 3) := by decide +kernel
theorem d_Lm_judge_106 : decode M_Lm_judge.2.1 106 = .ok (.bipush (-9), 2) := by decide +kernel
theorem d_Lm_judge_108 : decode M_Lm_judge.2.1 108 = .ok (.ireturn, 1) := by decide +kernel
theorem d_Lm_share_0 : decode M_Lm_share.2.1 0 = .ok (.aload_n 0, 1) := by decide +kernel
theorem d_Lm_share_1 : decode M_Lm_share.2.1 1 = .ok (.getfield 20, 3) := by decide +kernel
theorem d_Lm_share_4 : decode M_Lm_share.2.1 4 = .ok (.iload_n 1, 1) := by decide +kernel
theorem d_Lm_share_5 : decode M_Lm_share.2.1 5 = .ok (.invokevirtual 101, 3) := by decide +kernel
theorem d_Lm_share_8 : decode M_Lm_share.2.1 8 = .ok (.ifCond .ne 5, 3) := by decide +kernel
theorem d_Lm_share_11 : decode M_Lm_share.2.1 11 = .ok (.iconst (-1), 1) := by decide +kernel
theorem d_Lm_share_12 : decode M_Lm_share.2.1 12 = .ok (.ireturn, 1) := by decide +kernel
theorem d_Lm_share_13 : decode M_Lm_share.2.1 13 = .ok (.aload_n 0, 1) := by decide +kernel
theorem d_Lm_share_14 : decode M_Lm_share.2.1 14 = .ok (.invokevirtual 193, 3) := by decide +kernel
theorem d_Lm_share_17 : decode M_Lm_share.2.1 17 = .ok (.iconst 1, 1) := by decide +kernel
theorem d_Lm_share_18 : decode M_Lm_share.2.1 18 = .ok (.aload_n 0, 1) := by decide +kernel
theorem d_Lm_share_19 : decode M_Lm_share.2.1 19 = .ok (.getfield 20, 3) := by decide +kernel
theorem d_Lm_share_22 : decode M_Lm_share.2.1 22 = .ok (.getfield 76, 3) := by decide +kernel
theorem d_Lm_share_25 : decode M_Lm_share.2.1 25 = .ok (.ishl, 1) := by decide +kernel
theorem d_Lm_share_26 : decode M_Lm_share.2.1 26 = .ok (.istore_n 3, 1) := by decide +kernel
theorem d_Lm_share_27 : decode M_Lm_share.2.1 27 = .ok (.iconst 1, 1) := by decide +kernel
theorem d_Lm_share_28 : decode M_Lm_share.2.1 28 = .ok (.iload_n 1, 1) := by decide +kernel
theorem d_Lm_share_29 : decode M_Lm_share.2.1 29 = .ok (.ishl, 1) := by decide +kernel
theorem d_Lm_share_30 : decode M_Lm_share.2.1 30 = .ok (.istore 4, 2) := by decide +kernel
theorem d_Lm_share_32 : decode M_Lm_share.2.1 32 = .ok (.iconst 0, 1) := by decide +kernel
theorem d_Lm_share_33 : decode M_Lm_share.2.1 33 = .ok (.istore 5, 2) := by decide +kernel
theorem d_Lm_share_35 : decode M_Lm_share.2.1 35 = .ok (.iconst 0, 1) := by decide +kernel
theorem d_Lm_share_36 : decode M_Lm_share.2.1 36 = .ok (.istore 6, 2) := by decide +kernel
theorem d_Lm_share_38 : decode M_Lm_share.2.1 38 = .ok (.iload 6, 2) := by decide +kernel
theorem d_Lm_share_40 : decode M_Lm_share.2.1 40 = .ok (.iload_n 3, 1) := by decide +kernel
theorem d_Lm_share_41 : decode M_Lm_share.2.1 41 = .ok (.if_icmp .ge 61, 3) := by decide +kernel
theorem d_Lm_share_44 : decode M_Lm_share.2.1 44 = .ok (.iload 6, 2) := by decide +kernel
theorem d_Lm_share_46 : decode M_Lm_share.2.1 46 = .ok (.bipush 32, 2) := by decide +kernel
theorem d_Lm_share_48 : decode M_Lm_share.2.1 48 = .ok (.if_icmp .ge 54, 3) := by decide +kernel
theorem d_Lm_share_51 : decode M_Lm_share.2.1 51 = .ok (.iload 6, 2) := by decide +kernel
theorem d_Lm_share_53 : decode M_Lm_share.2.1 53 = .ok (.iload 4, 2) := by decide +kernel
theorem d_Lm_share_55 : decode M_Lm_share.2.1 55 = .ok (.iand, 1) := by decide +kernel
theorem d_Lm_share_56 : decode M_Lm_share.2.1 56 = .ok (.ifCond .eq 40, 3) := by decide +kernel
theorem d_Lm_share_59 : decode M_Lm_share.2.1 59 = .ok (.iload 6, 2) := by decide +kernel
theorem d_Lm_share_61 : decode M_Lm_share.2.1 61 = .ok (.iload 4, 2) := by decide +kernel
theorem d_Lm_share_63 : decode M_Lm_share.2.1 63 = .ok (.isub, 1) := by decide +kernel
theorem d_Lm_share_64 : decode M_Lm_share.2.1 64 = .ok (.istore 7, 2) := by decide +kernel
theorem d_Lm_share_66 : decode M_Lm_share.2.1 66 = .ok (.iload 5, 2) := by decide +kernel
theorem d_Lm_share_68 : decode M_Lm_share.2.1 68 = .ok (.aload_n 0, 1) := by decide +kernel
theorem d_Lm_share_69 : decode M_Lm_share.2.1 69 = .ok (.iload 7, 2) := by decide +kernel
theorem d_Lm_share_71 : decode M_Lm_share.2.1 71 = .ok (.invokestatic 196, 3) := by decide +kernel
theorem d_Lm_share_74 : decode M_Lm_share.2.1 74 = .ok (.invokevirtual 201, 3) := by decide +kernel
theorem d_Lm_share_77 : decode M_Lm_share.2.1 77 = .ok (.aload_n 0, 1) := by decide +kernel
theorem d_Lm_share_78 : decode M_Lm_share.2.1 78 = .ok (.getfield 61, 3) := by decide +kernel
theorem d_Lm_share_81 : decode M_Lm_share.2.1 81 = .ok (.iload 6, 2) := by decide +kernel
theorem d_Lm_share_83 : decode M_Lm_share.2.1 83 = .ok (.iaload, 1) := by decide +kernel
theorem d_Lm_share_84 : decode M_Lm_share.2.1 84 = .ok (.aload_n 0, 1) := by decide +kernel
theorem d_Lm_share_85 : decode M_Lm_share.2.1 85 = .ok (.getfield 61, 3) := by decide +kernel
theorem d_Lm_share_88 : decode M_Lm_share.2.1 88 = .ok (.iload 7, 2) := by decide +kernel
theorem d_Lm_share_90 : decode M_Lm_share.2.1 90 = .ok (.iaload, 1) := by decide +kernel
theorem d_Lm_share_91 : decode M_Lm_share.2.1 91 = .ok (.isub, 1) := by decide +kernel
theorem d_Lm_share_92 : decode M_Lm_share.2.1 92 = .ok (.imul, 1) := by decide +kernel
theorem d_Lm_share_93 : decode M_Lm_share.2.1 93 = .ok (.iadd, 1) := by decide +kernel
theorem d_Lm_share_94 : decode M_Lm_share.2.1 94 = .ok (.istore 5, 2) := by decide +kernel
theorem d_Lm_share_96 : decode M_Lm_share.2.1 96 = .ok (.iinc 6 1, 3) := by decide +kernel
theorem d_Lm_share_99 : decode M_Lm_share.2.1 99 = .ok (.goto (-61), 3) := by decide +kernel
theorem d_Lm_share_102 : decode M_Lm_share.2.1 102 = .ok (.iload 5, 2) := by decide +kernel
theorem d_Lm_share_104 : decode M_Lm_share.2.1 104 = .ok (.aload_n 0, 1) := by decide +kernel
theorem d_Lm_share_105 : decode M_Lm_share.2.1 105 = .ok (.getfield 20, 3) := by decide +kernel
theorem d_Lm_share_108 : decode M_Lm_share.2.1 108 = .ok (.getfield 76, 3) := by decide +kernel
theorem d_Lm_share_111 : decode M_Lm_share.2.1 111 = .ok (.invokestatic 204, 3) := by decide +kernel
theorem d_Lm_share_114 : decode M_Lm_share.2.1 114 = .ok (.iload_n 2, 1) := by decide +kernel
theorem d_Lm_share_115 : decode M_Lm_share.2.1 115 = .ok (.invokestatic 207, 3) := by decide +kernel
theorem d_Lm_share_118 : decode M_Lm_share.2.1 118 = .ok (.ireturn, 1) := by decide +kernel
theorem d_Lm_count_0 : decode M_Lm_count.2.1 0 = .ok (.aload_n 0, 1) := by decide +kernel
theorem d_Lm_count_1 : decode M_Lm_count.2.1 1 = .ok (.getfield 20, 3) := by decide +kernel
theorem d_Lm_count_4 : decode M_Lm_count.2.1 4 = .ok (.iload_n 1, 1) := by decide +kernel
theorem d_Lm_count_5 : decode M_Lm_count.2.1 5 = .ok (.invokevirtual 101, 3) := by decide +kernel
theorem d_Lm_count_8 : decode M_Lm_count.2.1 8 = .ok (.ifCond .ne 5, 3) := by decide +kernel
theorem d_Lm_count_11 : decode M_Lm_count.2.1 11 = .ok (.iconst (-1), 1) := by decide +kernel
theorem d_Lm_count_12 : decode M_Lm_count.2.1 12 = .ok (.ireturn, 1) := by decide +kernel
theorem d_Lm_count_13 : decode M_Lm_count.2.1 13 = .ok (.iload_n 2, 1) := by decide +kernel
theorem d_Lm_count_14 : decode M_Lm_count.2.1 14 = .ok (.invokestatic 149, 3) := by decide +kernel
theorem d_Lm_count_17 : decode M_Lm_count.2.1 17 = .ok (.ifCond .eq 10, 3) := by decide +kernel
theorem d_Lm_count_20 : decode M_Lm_count.2.1 20 = .ok (.iload_n 3, 1) := by decide +kernel
theorem d_Lm_count_21 : decode M_Lm_count.2.1 21 = .ok (.invokestatic 165, 3) := by decide +kernel
theorem d_Lm_count_24 : decode M_Lm_count.2.1 24 = .ok (.ifCond .ne 6, 3) := by decide +kernel
theorem d_Lm_count_27 : decode M_Lm_count.2.1 27 = .ok (.bipush (-2), 2) := by decide +kernel
theorem d_Lm_count_29 : decode M_Lm_count.2.1 29 = .ok (.ireturn, 1) := by decide +kernel
theorem d_Lm_count_30 : decode M_Lm_count.2.1 30 = .ok (.aload_n 0, 1) := by decide +kernel
theorem d_Lm_count_31 : decode M_Lm_count.2.1 31 = .ok (.getfield 58, 3) := by decide +kernel
theorem d_Lm_count_34 : decode M_Lm_count.2.1 34 = .ok (.ifCond .lt 12, 3) := by decide +kernel
theorem d_Lm_count_37 : decode M_Lm_count.2.1 37 = .ok (.aload_n 0, 1) := by decide +kernel
theorem d_Lm_count_38 : decode M_Lm_count.2.1 38 = .ok (.getfield 58, 3) := by decide +kernel
theorem d_Lm_count_41 : decode M_Lm_count.2.1 41 = .ok (.bipush 6, 2) := by decide +kernel
theorem d_Lm_count_43 : decode M_Lm_count.2.1 43 = .ok (.if_icmp .lt 6, 3) := by decide +kernel
theorem d_Lm_count_46 : decode M_Lm_count.2.1 46 = .ok (.bipush (-4), 2) := by decide +kernel
theorem d_Lm_count_48 : decode M_Lm_count.2.1 48 = .ok (.ireturn, 1) := by decide +kernel
theorem d_Lm_count_49 : decode M_Lm_count.2.1 49 = .ok (.aload_n 0, 1) := by decide +kernel
theorem d_Lm_count_50 : decode M_Lm_count.2.1 50 = .ok (.getfield 49, 3) := by decide +kernel
theorem d_Lm_count_53 : decode M_Lm_count.2.1 53 = .ok (.aload_n 0, 1) := by decide +kernel
theorem d_Lm_count_54 : decode M_Lm_count.2.1 54 = .ok (.getfield 58, 3) := by decide +kernel
theorem d_Lm_count_57 : decode M_Lm_count.2.1 57 = .ok (.iload_n 1, 1) := by decide +kernel
theorem d_Lm_count_58 : decode M_Lm_count.2.1 58 = .ok (.iastore, 1) := by decide +kernel
theorem d_Lm_count_59 : decode M_Lm_count.2.1 59 = .ok (.aload_n 0, 1) := by decide +kernel
theorem d_Lm_count_60 : decode M_Lm_count.2.1 60 = .ok (.getfield 52, 3) := by decide +kernel
theorem d_Lm_count_63 : decode M_Lm_count.2.1 63 = .ok (.aload_n 0, 1) := by decide +kernel
theorem d_Lm_count_64 : decode M_Lm_count.2.1 64 = .ok (.getfield 58, 3) := by decide +kernel
theorem d_Lm_count_67 : decode M_Lm_count.2.1 67 = .ok (.iload_n 2, 1) := by decide +kernel
theorem d_Lm_count_68 : decode M_Lm_count.2.1 68 = .ok (.iastore, 1) := by decide +kernel
theorem d_Lm_count_69 : decode M_Lm_count.2.1 69 = .ok (.aload_n 0, 1) := by decide +kernel
theorem d_Lm_count_70 : decode M_Lm_count.2.1 70 = .ok (.getfield 55, 3) := by decide +kernel
theorem d_Lm_count_73 : decode M_Lm_count.2.1 73 = .ok (.aload_n 0, 1) := by decide +kernel
theorem d_Lm_count_74 : decode M_Lm_count.2.1 74 = .ok (.getfield 58, 3) := by decide +kernel
theorem d_Lm_count_77 : decode M_Lm_count.2.1 77 = .ok (.iload_n 3, 1) := by decide +kernel
theorem d_Lm_count_78 : decode M_Lm_count.2.1 78 = .ok (.iastore, 1) := by decide +kernel
theorem d_Lm_count_79 : decode M_Lm_count.2.1 79 = .ok (.aload_n 0, 1) := by decide +kernel
theorem d_Lm_count_80 : decode M_Lm_count.2.1 80 = .ok (.dup, 1) := by decide +kernel
theorem d_Lm_count_81 : decode M_Lm_count.2.1 81 = .ok (.getfield 58, 3) := by decide +kernel
theorem d_Lm_count_84 : decode M_Lm_count.2.1 84 = .ok (.iconst 1, 1) := by decide +kernel
theorem d_Lm_count_85 : decode M_Lm_count.2.1 85 = .ok (.iadd, 1) := by decide +kernel
theorem d_Lm_count_86 : decode M_Lm_count.2.1 86 = .ok (.putfield 58, 3) := by decide +kernel
theorem d_Lm_count_89 : decode M_Lm_count.2.1 89 = .ok (.aload_n 0, 1) := by decide +kernel
theorem d_Lm_count_90 : decode M_Lm_count.2.1 90 = .ok (.getfield 58, 3) := by decide +kernel
theorem d_Lm_count_93 : decode M_Lm_count.2.1 93 = .ok (.ireturn, 1) := by decide +kernel
theorem d_Lm_forget_0 : decode M_Lm_forget.2.1 0 = .ok (.aload_n 0, 1) := by decide +kernel
theorem d_Lm_forget_1 : decode M_Lm_forget.2.1 1 = .ok (.getfield 58, 3) := by decide +kernel
theorem d_Lm_forget_4 : decode M_Lm_forget.2.1 4 = .ok (.istore_n 1, 1) := by decide +kernel
theorem d_Lm_forget_5 : decode M_Lm_forget.2.1 5 = .ok (.aload_n 0, 1) := by decide +kernel
theorem d_Lm_forget_6 : decode M_Lm_forget.2.1 6 = .ok (.iconst 0, 1) := by decide +kernel
theorem d_Lm_forget_7 : decode M_Lm_forget.2.1 7 = .ok (.putfield 58, 3) := by decide +kernel
theorem d_Lm_forget_10 : decode M_Lm_forget.2.1 10 = .ok (.iload_n 1, 1) := by decide +kernel
theorem d_Lm_forget_11 : decode M_Lm_forget.2.1 11 = .ok (.ireturn, 1) := by decide +kernel
theorem d_Lm_honeys_0 : decode M_Lm_honeys.2.1 0 = .ok (.aload_n 0, 1) := by decide +kernel
theorem d_Lm_honeys_1 : decode M_Lm_honeys.2.1 1 = .ok (.getfield 24, 3) := by decide +kernel
theorem d_Lm_honeys_4 : decode M_Lm_honeys.2.1 4 = .ok (.aload_n 0, 1) := by decide +kernel
theorem d_Lm_honeys_5 : decode M_Lm_honeys.2.1 5 = .ok (.getfield 20, 3) := by decide +kernel
theorem d_Lm_honeys_8 : decode M_Lm_honeys.2.1 8 = .ok (.invokevirtual 72, 3) := by decide +kernel
theorem d_Lm_honeys_11 : decode M_Lm_honeys.2.1 11 = .ok (.iconst 0, 1) := by decide +kernel
theorem d_Lm_honeys_12 : decode M_Lm_honeys.2.1 12 = .ok (.istore_n 1, 1) := by decide +kernel
theorem d_Lm_honeys_13 : decode M_Lm_honeys.2.1 13 = .ok (.iconst 0, 1) := by decide +kernel
theorem d_Lm_honeys_14 : decode M_Lm_honeys.2.1 14 = .ok (.istore_n 2, 1) := by decide +kernel
theorem d_Lm_honeys_15 : decode M_Lm_honeys.2.1 15 = .ok (.iload_n 2, 1) := by decide +kernel
theorem d_Lm_honeys_16 : decode M_Lm_honeys.2.1 16 = .ok (.bipush 9, 2) := by decide +kernel
theorem d_Lm_honeys_18 : decode M_Lm_honeys.2.1 18 = .ok (.if_icmp .gt 30, 3) := by decide +kernel
theorem d_Lm_honeys_21 : decode M_Lm_honeys.2.1 21 = .ok (.aload_n 0, 1) := by decide +kernel
theorem d_Lm_honeys_22 : decode M_Lm_honeys.2.1 22 = .ok (.getfield 24, 3) := by decide +kernel
theorem d_Lm_honeys_25 : decode M_Lm_honeys.2.1 25 = .ok (.iload_n 2, 1) := by decide +kernel
theorem d_Lm_honeys_26 : decode M_Lm_honeys.2.1 26 = .ok (.putfield 85, 3) := by decide +kernel
theorem d_Lm_honeys_29 : decode M_Lm_honeys.2.1 29 = .ok (.aload_n 0, 1) := by decide +kernel
theorem d_Lm_honeys_30 : decode M_Lm_honeys.2.1 30 = .ok (.invokevirtual 211, 3) := by decide +kernel
theorem d_Lm_honeys_33 : decode M_Lm_honeys.2.1 33 = .ok (.ifCond .eq 9, 3) := by decide +kernel
theorem d_Lm_honeys_36 : decode M_Lm_honeys.2.1 36 = .ok (.iload_n 1, 1) := by decide +kernel
theorem d_Lm_honeys_37 : decode M_Lm_honeys.2.1 37 = .ok (.iconst 1, 1) := by decide +kernel
theorem d_Lm_honeys_38 : decode M_Lm_honeys.2.1 38 = .ok (.iload_n 2, 1) := by decide +kernel
theorem d_Lm_honeys_39 : decode M_Lm_honeys.2.1 39 = .ok (.ishl, 1) := by decide +kernel
theorem d_Lm_honeys_40 : decode M_Lm_honeys.2.1 40 = .ok (.ior, 1) := by decide +kernel
theorem d_Lm_honeys_41 : decode M_Lm_honeys.2.1 41 = .ok (.istore_n 1, 1) := by decide +kernel
theorem d_Lm_honeys_42 : decode M_Lm_honeys.2.1 42 = .ok (.iinc 2 1, 3) := by decide +kernel
theorem d_Lm_honeys_45 : decode M_Lm_honeys.2.1 45 = .ok (.goto (-30), 3) := by decide +kernel
theorem d_Lm_honeys_48 : decode M_Lm_honeys.2.1 48 = .ok (.iload_n 1, 1) := by decide +kernel
theorem d_Lm_honeys_49 : decode M_Lm_honeys.2.1 49 = .ok (.ireturn, 1) := by decide +kernel
theorem d_Lm_rests_0 : decode M_Lm_rests.2.1 0 = .ok (.aload_n 0, 1) := by decide +kernel
theorem d_Lm_rests_1 : decode M_Lm_rests.2.1 1 = .ok (.getfield 20, 3) := by decide +kernel
theorem d_Lm_rests_4 : decode M_Lm_rests.2.1 4 = .ok (.iload_n 1, 1) := by decide +kernel
theorem d_Lm_rests_5 : decode M_Lm_rests.2.1 5 = .ok (.invokevirtual 101, 3) := by decide +kernel
theorem d_Lm_rests_8 : decode M_Lm_rests.2.1 8 = .ok (.ifCond .eq 14, 3) := by decide +kernel
theorem d_Lm_rests_11 : decode M_Lm_rests.2.1 11 = .ok (.aload_n 0, 1) := by decide +kernel
theorem d_Lm_rests_12 : decode M_Lm_rests.2.1 12 = .ok (.getfield 20, 3) := by decide +kernel
theorem d_Lm_rests_15 : decode M_Lm_rests.2.1 15 = .ok (.iload_n 2, 1) := by decide +kernel
theorem d_Lm_rests_16 : decode M_Lm_rests.2.1 16 = .ok (.invokevirtual 101, 3) := by decide +kernel
theorem d_Lm_rests_19 : decode M_Lm_rests.2.1 19 = .ok (.ifCond .ne 5, 3) := by decide +kernel
theorem d_Lm_rests_22 : decode M_Lm_rests.2.1 22 = .ok (.iconst (-1), 1) := by decide +kernel
theorem d_Lm_rests_23 : decode M_Lm_rests.2.1 23 = .ok (.ireturn, 1) := by decide +kernel
theorem d_Lm_rests_24 : decode M_Lm_rests.2.1 24 = .ok (.iload_n 1, 1) := by decide +kernel
theorem d_Lm_rests_25 : decode M_Lm_rests.2.1 25 = .ok (.iload_n 2, 1) := by decide +kernel
theorem d_Lm_rests_26 : decode M_Lm_rests.2.1 26 = .ok (.if_icmp .eq 12, 3) := by decide +kernel
theorem d_Lm_rests_29 : decode M_Lm_rests.2.1 29 = .ok (.iload_n 3, 1) := by decide +kernel
theorem d_Lm_rests_30 : decode M_Lm_rests.2.1 30 = .ok (.ifCond .lt 8, 3) := by decide +kernel
theorem d_Lm_rests_33 : decode M_Lm_rests.2.1 33 = .ok (.iload_n 3, 1) := by decide +kernel
theorem d_Lm_rests_34 : decode M_Lm_rests.2.1 34 = .ok (.iconst 1, 1) := by decide +kernel
theorem d_Lm_rests_35 : decode M_Lm_rests.2.1 35 = .ok (.if_icmp .le 6, 3) := by decide +kernel
theorem d_Lm_rests_38 : decode M_Lm_rests.2.1 38 = .ok (.bipush (-2), 2) := by decide +kernel
theorem d_Lm_rests_40 : decode M_Lm_rests.2.1 40 = .ok (.ireturn, 1) := by decide +kernel
theorem d_Lm_rests_41 : decode M_Lm_rests.2.1 41 = .ok (.iconst 0, 1) := by decide +kernel
theorem d_Lm_rests_42 : decode M_Lm_rests.2.1 42 = .ok (.istore 4, 2) := by decide +kernel
theorem d_Lm_rests_44 : decode M_Lm_rests.2.1 44 = .ok (.bipush (-9), 2) := by decide +kernel
theorem d_Lm_rests_46 : decode M_Lm_rests.2.1 46 = .ok (.istore 5, 2) := by decide +kernel
theorem d_Lm_rests_48 : decode M_Lm_rests.2.1 48 = .ok (.iconst 0, 1) := by decide +kernel
theorem d_Lm_rests_49 : decode M_Lm_rests.2.1 49 = .ok (.istore 6, 2) := by decide +kernel
theorem d_Lm_rests_51 : decode M_Lm_rests.2.1 51 = .ok (.iload 6, 2) := by decide +kernel
theorem d_Lm_rests_53 : decode M_Lm_rests.2.1 53 = .ok (.iconst 4, 1) := by decide +kernel
theorem d_Lm_rests_54 : decode M_Lm_rests.2.1 54 = .ok (.if_icmp .ge 115, 3) := by decide +kernel
theorem d_Lm_rests_57 : decode M_Lm_rests.2.1 57 = .ok (.iload 6, 2) := by decide +kernel
theorem d_Lm_rests_59 : decode M_Lm_rests.2.1 59 = .ok (.iconst 2, 1) := by decide +kernel
theorem d_Lm_rests_60 : decode M_Lm_rests.2.1 60 = .ok (.idiv, 1) := by decide +kernel
theorem d_Lm_rests_61 : decode M_Lm_rests.2.1 61 = .ok (.istore 7, 2) := by decide +kernel
theorem d_Lm_rests_63 : decode M_Lm_rests.2.1 63 = .ok (.iload 6, 2) := by decide +kernel
theorem d_Lm_rests_65 : decode M_Lm_rests.2.1 65 = .ok (.iconst 2, 1) := by decide +kernel
theorem d_Lm_rests_66 : decode M_Lm_rests.2.1 66 = .ok (.irem, 1) := by decide +kernel
theorem d_Lm_rests_67 : decode M_Lm_rests.2.1 67 = .ok (.istore 8, 2) := by decide +kernel
theorem d_Lm_rests_69 : decode M_Lm_rests.2.1 69 = .ok (.aload_n 0, 1) := by decide +kernel
theorem d_Lm_rests_70 : decode M_Lm_rests.2.1 70 = .ok (.iload_n 1, 1) := by decide +kernel
theorem d_Lm_rests_71 : decode M_Lm_rests.2.1 71 = .ok (.iload_n 2, 1) := by decide +kernel
theorem d_Lm_rests_72 : decode M_Lm_rests.2.1 72 = .ok (.iload 7, 2) := by decide +kernel
theorem d_Lm_rests_74 : decode M_Lm_rests.2.1 74 = .ok (.iload 8, 2) := by decide +kernel
theorem d_Lm_rests_76 : decode M_Lm_rests.2.1 76 = .ok (.invokevirtual 214, 3) := by decide +kernel
theorem d_Lm_rests_79 : decode M_Lm_rests.2.1 79 = .ok (.aload_n 0, 1) := by decide +kernel
theorem d_Lm_rests_80 : decode M_Lm_rests.2.1 80 = .ok (.iload_n 1, 1) := by decide +kernel
theorem d_Lm_rests_81 : decode M_Lm_rests.2.1 81 = .ok (.iload_n 2, 1) := by decide +kernel
theorem d_Lm_rests_82 : decode M_Lm_rests.2.1 82 = .ok (.iconst 1, 1) := by decide +kernel
theorem d_Lm_rests_83 : decode M_Lm_rests.2.1 83 = .ok (.iload 7, 2) := by decide +kernel
theorem d_Lm_rests_85 : decode M_Lm_rests.2.1 85 = .ok (.isub, 1) := by decide +kernel
theorem d_Lm_rests_86 : decode M_Lm_rests.2.1 86 = .ok (.iload 8, 2) := by decide +kernel
theorem d_Lm_rests_88 : decode M_Lm_rests.2.1 88 = .ok (.invokevirtual 214, 3) := by decide +kernel
theorem d_Lm_rests_91 : decode M_Lm_rests.2.1 91 = .ok (.if_icmp .lt 7, 3) := by decide +kernel
theorem d_Lm_rests_94 : decode M_Lm_rests.2.1 94 = .ok (.iconst 1, 1) := by decide +kernel
theorem d_Lm_rests_95 : decode M_Lm_rests.2.1 95 = .ok (.goto 4, 3) := by decide +kernel
theorem d_Lm_rests_98 : decode M_Lm_rests.2.1 98 = .ok (.iconst 0, 1) := by decide +kernel
theorem d_Lm_rests_99 : decode M_Lm_rests.2.1 99 = .ok (.istore 9, 2) := by decide +kernel
theorem d_Lm_rests_101 : decode M_Lm_rests.2.1 101 = .ok (.aload_n 0, 1) := by decide +kernel
theorem d_Lm_rests_102 : decode M_Lm_rests.2.1 102 = .ok (.iload_n 2, 1) := by decide +kernel
theorem d_Lm_rests_103 : decode M_Lm_rests.2.1 103 = .ok (.iload_n 1, 1) := by decide +kernel
theorem d_Lm_rests_104 : decode M_Lm_rests.2.1 104 = .ok (.iload 8, 2) := by decide +kernel
theorem d_Lm_rests_106 : decode M_Lm_rests.2.1 106 = .ok (.iload 7, 2) := by decide +kernel
theorem d_Lm_rests_108 : decode M_Lm_rests.2.1 108 = .ok (.invokevirtual 214, 3) := by decide +kernel
theorem d_Lm_rests_111 : decode M_Lm_rests.2.1 111 = .ok (.aload_n 0, 1) := by decide +kernel
theorem d_Lm_rests_112 : decode M_Lm_rests.2.1 112 = .ok (.iload_n 2, 1) := by decide +kernel
theorem d_Lm_rests_113 : decode M_Lm_rests.2.1 113 = .ok (.iload_n 1, 1) := by decide +kernel
theorem d_Lm_rests_114 : decode M_Lm_rests.2.1 114 = .ok (.iconst 1, 1) := by decide +kernel
theorem d_Lm_rests_115 : decode M_Lm_rests.2.1 115 = .ok (.iload 8, 2) := by decide +kernel
theorem d_Lm_rests_117 : decode M_Lm_rests.2.1 117 = .ok (.isub, 1) := by decide +kernel
theorem d_Lm_rests_118 : decode M_Lm_rests.2.1 118 = .ok (.iload 7, 2) := by decide +kernel
theorem d_Lm_rests_120 : decode M_Lm_rests.2.1 120 = .ok (.invokevirtual 214, 3) := by decide +kernel
theorem d_Lm_rests_123 : decode M_Lm_rests.2.1 123 = .ok (.if_icmp .lt 7, 3) := by decide +kernel
theorem d_Lm_rests_126 : decode M_Lm_rests.2.1 126 = .ok (.iconst 1, 1) := by decide +kernel
theorem d_Lm_rests_127 : decode M_Lm_rests.2.1 127 = .ok (.goto 4, 3) := by decide +kernel
theorem d_Lm_rests_130 : decode M_Lm_rests.2.1 130 = .ok (.iconst 0, 1) := by decide +kernel
theorem d_Lm_rests_131 : decode M_Lm_rests.2.1 131 = .ok (.istore 10, 2) := by decide +kernel
theorem d_Lm_rests_133 : decode M_Lm_rests.2.1 133 = .ok (.iload 9, 2) := by decide +kernel
theorem d_Lm_rests_135 : decode M_Lm_rests.2.1 135 = .ok (.ifCond .eq 28, 3) := by decide +kernel
theorem d_Lm_rests_138 : decode M_Lm_rests.2.1 138 = .ok (.iload 10, 2) := by decide +kernel
theorem d_Lm_rests_140 : decode M_Lm_rests.2.1 140 = .ok (.ifCond .eq 23, 3) := by decide +kernel
theorem d_Lm_rests_143 : decode M_Lm_rests.2.1 143 = .ok (.iinc 4 1, 3) := by decide +kernel
theorem d_Lm_rests_146 : decode M_Lm_rests.2.1 146 = .ok (.iload 5, 2) := by decide +kernel
theorem d_Lm_rests_148 : decode M_Lm_rests.2.1 148 = .ok (.bipush (-9), 2) := by decide +kernel
theorem d_Lm_rests_150 : decode M_Lm_rests.2.1 150 = .ok (.if_icmp .ne 13, 3) := by decide +kernel
theorem d_Lm_rests_153 : decode M_Lm_rests.2.1 153 = .ok (.bipush 10, 2) := by decide +kernel
theorem d_Lm_rests_155 : decode M_Lm_rests.2.1 155 = .ok (.iload 7, 2) := by decide +kernel
theorem d_Lm_rests_157 : decode M_Lm_rests.2.1 157 = .ok (.imul, 1) := by decide +kernel
theorem d_Lm_rests_158 : decode M_Lm_rests.2.1 158 = .ok (.iload 8, 2) := by decide +kernel
theorem d_Lm_rests_160 : decode M_Lm_rests.2.1 160 = .ok (.iadd, 1) := by decide +kernel
theorem d_Lm_rests_161 : decode M_Lm_rests.2.1 161 = .ok (.istore 5, 2) := by decide +kernel
theorem d_Lm_rests_163 : decode M_Lm_rests.2.1 163 = .ok (.iinc 6 1, 3) := by decide +kernel
theorem d_Lm_rests_166 : decode M_Lm_rests.2.1 166 = .ok (.goto (-115), 3) := by decide +kernel
theorem d_Lm_rests_169 : decode M_Lm_rests.2.1 169 = .ok (.iload_n 3, 1) := by decide +kernel
theorem d_Lm_rests_170 : decode M_Lm_rests.2.1 170 = .ok (.ifCond .ne 8, 3) := by decide +kernel
theorem d_Lm_rests_173 : decode M_Lm_rests.2.1 173 = .ok (.iload 4, 2) := by decide +kernel
theorem d_Lm_rests_175 : decode M_Lm_rests.2.1 175 = .ok (.goto 5, 3) := by decide +kernel
theorem d_Lm_rests_178 : decode M_Lm_rests.2.1 178 = .ok (.iload 5, 2) := by decide +kernel
theorem d_Lm_rests_180 : decode M_Lm_rests.2.1 180 = .ok (.ireturn, 1) := by decide +kernel
theorem d_Lm_clouds_0 : decode M_Lm_clouds.2.1 0 = .ok (.iload_n 1, 1) := by decide +kernel
theorem d_Lm_clouds_1 : decode M_Lm_clouds.2.1 1 = .ok (.invokestatic 165, 3) := by decide +kernel
theorem d_Lm_clouds_4 : decode M_Lm_clouds.2.1 4 = .ok (.ifCond .eq 13, 3) := by decide +kernel
theorem d_Lm_clouds_7 : decode M_Lm_clouds.2.1 7 = .ok (.iload_n 2, 1) := by decide +kernel
theorem d_Lm_clouds_8 : decode M_Lm_clouds.2.1 8 = .ok (.ifCond .lt 9, 3) := by decide +kernel
theorem d_Lm_clouds_11 : decode M_Lm_clouds.2.1 11 = .ok (.iload_n 2, 1) := by decide +kernel
theorem d_Lm_clouds_12 : decode M_Lm_clouds.2.1 12 = .ok (.bipush 10, 2) := by decide +kernel
theorem d_Lm_clouds_14 : decode M_Lm_clouds.2.1 14 = .ok (.if_icmp .le 6, 3) := by decide +kernel
theorem d_Lm_clouds_17 : decode M_Lm_clouds.2.1 17 = .ok (.bipush (-2), 2) := by decide +kernel
theorem d_Lm_clouds_19 : decode M_Lm_clouds.2.1 19 = .ok (.ireturn, 1) := by decide +kernel
theorem d_Lm_clouds_20 : decode M_Lm_clouds.2.1 20 = .ok (.iconst 1, 1) := by decide +kernel
theorem d_Lm_clouds_21 : decode M_Lm_clouds.2.1 21 = .ok (.aload_n 0, 1) := by decide +kernel
theorem d_Lm_clouds_22 : decode M_Lm_clouds.2.1 22 = .ok (.getfield 20, 3) := by decide +kernel
theorem d_Lm_clouds_25 : decode M_Lm_clouds.2.1 25 = .ok (.getfield 76, 3) := by decide +kernel
theorem d_Lm_clouds_28 : decode M_Lm_clouds.2.1 28 = .ok (.ishl, 1) := by decide +kernel
theorem d_Lm_clouds_29 : decode M_Lm_clouds.2.1 29 = .ok (.istore 4, 2) := by decide +kernel
theorem d_Lm_clouds_31 : decode M_Lm_clouds.2.1 31 = .ok (.iconst 0, 1) := by decide +kernel
theorem d_Lm_clouds_32 : decode M_Lm_clouds.2.1 32 = .ok (.istore 5, 2) := by decide +kernel
theorem d_Lm_clouds_34 : decode M_Lm_clouds.2.1 34 = .ok (.iconst 0, 1) := by decide +kernel
theorem d_Lm_clouds_35 : decode M_Lm_clouds.2.1 35 = .ok (.istore 6, 2) := by decide +kernel
theorem d_Lm_clouds_37 : decode M_Lm_clouds.2.1 37 = .ok (.iload 6, 2) := by decide +kernel
theorem d_Lm_clouds_39 : decode M_Lm_clouds.2.1 39 = .ok (.iload 4, 2) := by decide +kernel
theorem d_Lm_clouds_41 : decode M_Lm_clouds.2.1 41 = .ok (.if_icmp .ge 76, 3) := by decide +kernel
theorem d_Lm_clouds_44 : decode M_Lm_clouds.2.1 44 = .ok (.aload_n 0, 1) := by decide +kernel
theorem d_Lm_clouds_45 : decode M_Lm_clouds.2.1 45 = .ok (.getfield 24, 3) := by decide +kernel
theorem d_Lm_clouds_48 : decode M_Lm_clouds.2.1 48 = .ok (.aload_n 0, 1) := by decide +kernel
theorem d_Lm_clouds_49 : decode M_Lm_clouds.2.1 49 = .ok (.getfield 20, 3) := by decide +kernel
theorem d_Lm_clouds_52 : decode M_Lm_clouds.2.1 52 = .ok (.invokevirtual 72, 3) := by decide +kernel
theorem d_Lm_clouds_55 : decode M_Lm_clouds.2.1 55 = .ok (.aload_n 0, 1) := by decide +kernel
theorem d_Lm_clouds_56 : decode M_Lm_clouds.2.1 56 = .ok (.getfield 24, 3) := by decide +kernel
theorem d_Lm_clouds_59 : decode M_Lm_clouds.2.1 59 = .ok (.iload 6, 2) := by decide +kernel
theorem d_Lm_clouds_61 : decode M_Lm_clouds.2.1 61 = .ok (.invokevirtual 218, 3) := by decide +kernel
theorem d_Lm_clouds_64 : decode M_Lm_clouds.2.1 64 = .ok (.aload_n 0, 1) := by decide +kernel
theorem d_Lm_clouds_65 : decode M_Lm_clouds.2.1 65 = .ok (.getfield 24, 3) := by decide +kernel
theorem d_Lm_clouds_68 : decode M_Lm_clouds.2.1 68 = .ok (.invokevirtual 95, 3) := by decide +kernel
theorem d_Lm_clouds_71 : decode M_Lm_clouds.2.1 71 = .ok (.iload_n 1, 1) := by decide +kernel
theorem d_Lm_clouds_72 : decode M_Lm_clouds.2.1 72 = .ok (.if_icmp .gt 39, 3) := by decide +kernel
theorem d_Lm_clouds_75 : decode M_Lm_clouds.2.1 75 = .ok (.iload 6, 2) := by decide +kernel
theorem d_Lm_clouds_77 : decode M_Lm_clouds.2.1 77 = .ok (.invokestatic 196, 3) := by decide +kernel
theorem d_Lm_clouds_80 : decode M_Lm_clouds.2.1 80 = .ok (.istore 7, 2) := by decide +kernel
theorem d_Lm_clouds_82 : decode M_Lm_clouds.2.1 82 = .ok (.iload 5, 2) := by decide +kernel
theorem d_Lm_clouds_84 : decode M_Lm_clouds.2.1 84 = .ok (.iload_n 2, 1) := by decide +kernel
theorem d_Lm_clouds_85 : decode M_Lm_clouds.2.1 85 = .ok (.iload 7, 2) := by decide +kernel
theorem d_Lm_clouds_87 : decode M_Lm_clouds.2.1 87 = .ok (.invokestatic 172, 3) := by decide +kernel
theorem d_Lm_clouds_90 : decode M_Lm_clouds.2.1 90 = .ok (.bipush 10, 2) := by decide +kernel
theorem d_Lm_clouds_92 : decode M_Lm_clouds.2.1 92 = .ok (.iload_n 2, 1) := by decide +kernel
theorem d_Lm_clouds_93 : decode M_Lm_clouds.2.1 93 = .ok (.isub, 1) := by decide +kernel
theorem d_Lm_clouds_94 : decode M_Lm_clouds.2.1 94 = .ok (.aload_n 0, 1) := by decide +kernel
theorem d_Lm_clouds_95 : decode M_Lm_clouds.2.1 95 = .ok (.getfield 20, 3) := by decide +kernel
theorem d_Lm_clouds_98 : decode M_Lm_clouds.2.1 98 = .ok (.getfield 76, 3) := by decide +kernel
theorem d_Lm_clouds_101 : decode M_Lm_clouds.2.1 101 = .ok (.iload 7, 2) := by decide +kernel
theorem d_Lm_clouds_103 : decode M_Lm_clouds.2.1 103 = .ok (.isub, 1) := by decide +kernel
theorem d_Lm_clouds_104 : decode M_Lm_clouds.2.1 104 = .ok (.invokestatic 172, 3) := by decide +kernel
theorem d_Lm_clouds_107 : decode M_Lm_clouds.2.1 107 = .ok (.imul, 1) := by decide +kernel
theorem d_Lm_clouds_108 : decode M_Lm_clouds.2.1 108 = .ok (.iadd, 1) := by decide +kernel
theorem d_Lm_clouds_109 : decode M_Lm_clouds.2.1 109 = .ok (.istore 5, 2) := by decide +kernel
theorem d_Lm_clouds_111 : decode M_Lm_clouds.2.1 111 = .ok (.iinc 6 1, 3) := by decide +kernel
theorem d_Lm_clouds_114 : decode M_Lm_clouds.2.1 114 = .ok (.goto (-77), 3) := by decide +kernel
theorem d_Lm_clouds_117 : decode M_Lm_clouds.2.1 117 = .ok (.iload 5, 2) := by decide +kernel
theorem d_Lm_clouds_119 : decode M_Lm_clouds.2.1 119 = .ok (.bipush 10, 2) := by decide +kernel
theorem d_Lm_clouds_121 : decode M_Lm_clouds.2.1 121 = .ok (.aload_n 0, 1) := by decide +kernel
theorem d_Lm_clouds_122 : decode M_Lm_clouds.2.1 122 = .ok (.getfield 20, 3) := by decide +kernel
theorem d_Lm_clouds_125 : decode M_Lm_clouds.2.1 125 = .ok (.getfield 76, 3) := by decide +kernel
theorem d_Lm_clouds_128 : decode M_Lm_clouds.2.1 128 = .ok (.invokestatic 172, 3) := by decide +kernel
theorem d_Lm_clouds_131 : decode M_Lm_clouds.2.1 131 = .ok (.iload_n 3, 1) := by decide +kernel
theorem d_Lm_clouds_132 : decode M_Lm_clouds.2.1 132 = .ok (.invokestatic 207, 3) := by decide +kernel
theorem d_Lm_clouds_135 : decode M_Lm_clouds.2.1 135 = .ok (.ireturn, 1) := by decide +kernel
theorem d_Lm_seed_0 : decode M_Lm_seed.2.1 0 = .ok (.aload_n 0, 1) := by decide +kernel
theorem d_Lm_seed_1 : decode M_Lm_seed.2.1 1 = .ok (.getfield 64, 3) := by decide +kernel
theorem d_Lm_seed_4 : decode M_Lm_seed.2.1 4 = .ok (.lstore_n 3, 1) := by decide +kernel
theorem d_Lm_seed_5 : decode M_Lm_seed.2.1 5 = .ok (.aload_n 0, 1) := by decide +kernel
theorem d_Lm_seed_6 : decode M_Lm_seed.2.1 6 = .ok (.lload_n 1, 1) := by decide +kernel
theorem d_Lm_seed_7 : decode M_Lm_seed.2.1 7 = .ok (.putfield 64, 3) := by decide +kernel
theorem d_Lm_seed_10 : decode M_Lm_seed.2.1 10 = .ok (.lload_n 3, 1) := by decide +kernel
theorem d_Lm_seed_11 : decode M_Lm_seed.2.1 11 = .ok (.lreturn, 1) := by decide +kernel
theorem d_Lm_weeks_0 : decode M_Lm_weeks.2.1 0 = .ok (.iload_n 1, 1) := by decide +kernel
theorem d_Lm_weeks_1 : decode M_Lm_weeks.2.1 1 = .ok (.iconst 1, 1) := by decide +kernel
theorem d_Lm_weeks_2 : decode M_Lm_weeks.2.1 2 = .ok (.if_icmp .lt 9, 3) := by decide +kernel
theorem d_Lm_weeks_5 : decode M_Lm_weeks.2.1 5 = .ok (.iload_n 1, 1) := by decide +kernel
theorem d_Lm_weeks_6 : decode M_Lm_weeks.2.1 6 = .ok (.bipush 30, 2) := by decide +kernel
theorem d_Lm_weeks_8 : decode M_Lm_weeks.2.1 8 = .ok (.if_icmp .le 6, 3) := by decide +kernel
theorem d_Lm_weeks_11 : decode M_Lm_weeks.2.1 11 = .ok (.bipush (-2), 2) := by decide +kernel
theorem d_Lm_weeks_13 : decode M_Lm_weeks.2.1 13 = .ok (.ireturn, 1) := by decide +kernel
theorem d_Lm_weeks_14 : decode M_Lm_weeks.2.1 14 = .ok (.aload_n 0, 1) := by decide +kernel
theorem d_Lm_weeks_15 : decode M_Lm_weeks.2.1 15 = .ok (.getfield 24, 3) := by decide +kernel
theorem d_Lm_weeks_18 : decode M_Lm_weeks.2.1 18 = .ok (.aload_n 0, 1) := by decide +kernel
theorem d_Lm_weeks_19 : decode M_Lm_weeks.2.1 19 = .ok (.getfield 20, 3) := by decide +kernel
theorem d_Lm_weeks_22 : decode M_Lm_weeks.2.1 22 = .ok (.invokevirtual 72, 3) := by decide +kernel
theorem d_Lm_weeks_25 : decode M_Lm_weeks.2.1 25 = .ok (.iconst 0, 1) := by decide +kernel
theorem d_Lm_weeks_26 : decode M_Lm_weeks.2.1 26 = .ok (.istore_n 2, 1) := by decide +kernel
theorem d_Lm_weeks_27 : decode M_Lm_weeks.2.1 27 = .ok (.iload_n 2, 1) := by decide +kernel
theorem d_Lm_weeks_28 : decode M_Lm_weeks.2.1 28 = .ok (.iload_n 1, 1) := by decide +kernel
theorem d_Lm_weeks_29 : decode M_Lm_weeks.2.1 29 = .ok (.if_icmp .ge 41, 3) := by decide +kernel
theorem d_Lm_weeks_32 : decode M_Lm_weeks.2.1 32 = .ok (.aload_n 0, 1) := by decide +kernel
theorem d_Lm_weeks_33 : decode M_Lm_weeks.2.1 33 = .ok (.aload_n 0, 1) := by decide +kernel
theorem d_Lm_weeks_34 : decode M_Lm_weeks.2.1 34 = .ok (.getfield 64, 3) := by decide +kernel
theorem d_Lm_weeks_37 : decode M_Lm_weeks.2.1 37 = .ok (.ldc2_w 221, 3) := by decide +kernel
theorem d_Lm_weeks_40 : decode M_Lm_weeks.2.1 40 = .ok (.lmul, 1) := by decide +kernel
theorem d_Lm_weeks_41 : decode M_Lm_weeks.2.1 41 = .ok (.ldc2_w 223, 3) := by decide +kernel
theorem d_Lm_weeks_44 : decode M_Lm_weeks.2.1 44 = .ok (.ladd, 1) := by decide +kernel
theorem d_Lm_weeks_45 : decode M_Lm_weeks.2.1 45 = .ok (.putfield 64, 3) := by decide +kernel
theorem d_Lm_weeks_48 : decode M_Lm_weeks.2.1 48 = .ok (.aload_n 0, 1) := by decide +kernel
theorem d_Lm_weeks_49 : decode M_Lm_weeks.2.1 49 = .ok (.aload_n 0, 1) := by decide +kernel
theorem d_Lm_weeks_50 : decode M_Lm_weeks.2.1 50 = .ok (.getfield 64, 3) := by decide +kernel
theorem d_Lm_weeks_53 : decode M_Lm_weeks.2.1 53 = .ok (.bipush 33, 2) := by decide +kernel
theorem d_Lm_weeks_55 : decode M_Lm_weeks.2.1 55 = .ok (.lushr, 1) := by decide +kernel
theorem d_Lm_weeks_56 : decode M_Lm_weeks.2.1 56 = .ok (.ldc2_w 225, 3) := by decide +kernel
theorem d_Lm_weeks_59 : decode M_Lm_weeks.2.1 59 = .ok (.lrem, 1) := by decide +kernel
theorem d_Lm_weeks_60 : decode M_Lm_weeks.2.1 60 = .ok (.l2i, 1) := by decide +kernel
theorem d_Lm_weeks_61 : decode M_Lm_weeks.2.1 61 = .ok (.invokevirtual 227, 3) := by decide +kernel
theorem d_Lm_weeks_64 : decode M_Lm_weeks.2.1 64 = .ok (.iinc 2 1, 3) := by decide +kernel
theorem d_Lm_weeks_67 : decode M_Lm_weeks.2.1 67 = .ok (.goto (-40), 3) := by decide +kernel
theorem d_Lm_weeks_70 : decode M_Lm_weeks.2.1 70 = .ok (.aload_n 0, 1) := by decide +kernel
theorem d_Lm_weeks_71 : decode M_Lm_weeks.2.1 71 = .ok (.getfield 24, 3) := by decide +kernel
theorem d_Lm_weeks_74 : decode M_Lm_weeks.2.1 74 = .ok (.invokevirtual 91, 3) := by decide +kernel
theorem d_Lm_weeks_77 : decode M_Lm_weeks.2.1 77 = .ok (.aload_n 0, 1) := by decide +kernel
theorem d_Lm_weeks_78 : decode M_Lm_weeks.2.1 78 = .ok (.getfield 20, 3) := by decide +kernel
theorem d_Lm_weeks_81 : decode M_Lm_weeks.2.1 81 = .ok (.invokevirtual 91, 3) := by decide +kernel
theorem d_Lm_weeks_84 : decode M_Lm_weeks.2.1 84 = .ok (.isub, 1) := by decide +kernel
theorem d_Lm_weeks_85 : decode M_Lm_weeks.2.1 85 = .ok (.ireturn, 1) := by decide +kernel
theorem d_Lm_keep_0 : decode M_Lm_keep.2.1 0 = .ok (.iload_n 1, 1) := by decide +kernel
theorem d_Lm_keep_1 : decode M_Lm_keep.2.1 1 = .ok (.ifCond .lt 8, 3) := by decide +kernel
theorem d_Lm_keep_4 : decode M_Lm_keep.2.1 4 = .ok (.iload_n 1, 1) := by decide +kernel
theorem d_Lm_keep_5 : decode M_Lm_keep.2.1 5 = .ok (.iconst 2, 1) := by decide +kernel
theorem d_Lm_keep_6 : decode M_Lm_keep.2.1 6 = .ok (.if_icmp .lt 5, 3) := by decide +kernel
theorem d_Lm_keep_9 : decode M_Lm_keep.2.1 9 = .ok (.iconst (-1), 1) := by decide +kernel
theorem d_Lm_keep_10 : decode M_Lm_keep.2.1 10 = .ok (.ireturn, 1) := by decide +kernel
theorem d_Lm_keep_11 : decode M_Lm_keep.2.1 11 = .ok (.aload_n 0, 1) := by decide +kernel
theorem d_Lm_keep_12 : decode M_Lm_keep.2.1 12 = .ok (.getfield 20, 3) := by decide +kernel
theorem d_Lm_keep_15 : decode M_Lm_keep.2.1 15 = .ok (.aload_n 0, 1) := by decide +kernel
theorem d_Lm_keep_16 : decode M_Lm_keep.2.1 16 = .ok (.getfield 42, 3) := by decide +kernel
theorem d_Lm_keep_19 : decode M_Lm_keep.2.1 19 = .ok (.iload_n 1, 1) := by decide +kernel
theorem d_Lm_keep_20 : decode M_Lm_keep.2.1 20 = .ok (.aaload, 1) := by decide +kernel
theorem d_Lm_keep_21 : decode M_Lm_keep.2.1 21 = .ok (.invokevirtual 230, 3) := by decide +kernel
theorem d_Lm_keep_24 : decode M_Lm_keep.2.1 24 = .ok (.aload_n 0, 1) := by decide +kernel
theorem d_Lm_keep_25 : decode M_Lm_keep.2.1 25 = .ok (.getfield 45, 3) := by decide +kernel
theorem d_Lm_keep_28 : decode M_Lm_keep.2.1 28 = .ok (.iload_n 1, 1) := by decide +kernel
theorem d_Lm_keep_29 : decode M_Lm_keep.2.1 29 = .ok (.iconst 1, 1) := by decide +kernel
theorem d_Lm_keep_30 : decode M_Lm_keep.2.1 30 = .ok (.bastore, 1) := by decide +kernel
theorem d_Lm_keep_31 : decode M_Lm_keep.2.1 31 = .ok (.aload_n 0, 1) := by decide +kernel
theorem d_Lm_keep_32 : decode M_Lm_keep.2.1 32 = .ok (.getfield 20, 3) := by decide +kernel
theorem d_Lm_keep_35 : decode M_Lm_keep.2.1 35 = .ok (.getfield 88, 3) := by decide +kernel
theorem d_Lm_keep_38 : decode M_Lm_keep.2.1 38 = .ok (.ireturn, 1) := by decide +kernel
theorem d_Lm_again_0 : decode M_Lm_again.2.1 0 = .ok (.iload_n 1, 1) := by decide +kernel
theorem d_Lm_again_1 : decode M_Lm_again.2.1 1 = .ok (.ifCond .lt 8, 3) := by decide +kernel
theorem d_Lm_again_4 : decode M_Lm_again.2.1 4 = .ok (.iload_n 1, 1) := by decide +kernel
theorem d_Lm_again_5 : decode M_Lm_again.2.1 5 = .ok (.iconst 2, 1) := by decide +kernel
theorem d_Lm_again_6 : decode M_Lm_again.2.1 6 = .ok (.if_icmp .lt 5, 3) := by decide +kernel
theorem d_Lm_again_9 : decode M_Lm_again.2.1 9 = .ok (.iconst (-1), 1) := by decide +kernel
theorem d_Lm_again_10 : decode M_Lm_again.2.1 10 = .ok (.ireturn, 1) := by decide +kernel
theorem d_Lm_again_11 : decode M_Lm_again.2.1 11 = .ok (.aload_n 0, 1) := by decide +kernel
theorem d_Lm_again_12 : decode M_Lm_again.2.1 12 = .ok (.getfield 45, 3) := by decide +kernel
theorem d_Lm_again_15 : decode M_Lm_again.2.1 15 = .ok (.iload_n 1, 1) := by decide +kernel
theorem d_Lm_again_16 : decode M_Lm_again.2.1 16 = .ok (.baload, 1) := by decide +kernel
theorem d_Lm_again_17 : decode M_Lm_again.2.1 17 = .ok (.ifCond .ne 6, 3) := by decide +kernel
theorem d_Lm_again_20 : decode M_Lm_again.2.1 20 = .ok (.bipush (-3), 2) := by decide +kernel
theorem d_Lm_again_22 : decode M_Lm_again.2.1 22 = .ok (.ireturn, 1) := by decide +kernel
theorem d_Lm_again_23 : decode M_Lm_again.2.1 23 = .ok (.aload_n 0, 1) := by decide +kernel
theorem d_Lm_again_24 : decode M_Lm_again.2.1 24 = .ok (.getfield 20, 3) := by decide +kernel
theorem d_Lm_again_27 : decode M_Lm_again.2.1 27 = .ok (.aload_n 0, 1) := by decide +kernel
theorem d_Lm_again_28 : decode M_Lm_again.2.1 28 = .ok (.getfield 42, 3) := by decide +kernel
theorem d_Lm_again_31 : decode M_Lm_again.2.1 31 = .ok (.iload_n 1, 1) := by decide +kernel
theorem d_Lm_again_32 : decode M_Lm_again.2.1 32 = .ok (.aaload, 1) := by decide +kernel
theorem d_Lm_again_33 : decode M_Lm_again.2.1 33 = .ok (.invokevirtual 161, 3) := by decide +kernel
theorem d_Lm_again_36 : decode M_Lm_again.2.1 36 = .ok (.aload_n 0, 1) := by decide +kernel
theorem d_Lm_again_37 : decode M_Lm_again.2.1 37 = .ok (.iconst 0, 1) := by decide +kernel
theorem d_Lm_again_38 : decode M_Lm_again.2.1 38 = .ok (.putfield 39, 3) := by decide +kernel
theorem d_Lm_again_41 : decode M_Lm_again.2.1 41 = .ok (.aload_n 0, 1) := by decide +kernel
theorem d_Lm_again_42 : decode M_Lm_again.2.1 42 = .ok (.getfield 20, 3) := by decide +kernel
theorem d_Lm_again_45 : decode M_Lm_again.2.1 45 = .ok (.getfield 88, 3) := by decide +kernel
theorem d_Lm_again_48 : decode M_Lm_again.2.1 48 = .ok (.ireturn, 1) := by decide +kernel
theorem d_Lm_isWind_0 : decode M_Lm_isWind.2.1 0 = .ok (.iload_n 0, 1) := by decide +kernel
theorem d_Lm_isWind_1 : decode M_Lm_isWind.2.1 1 = .ok (.ifCond .lt 12, 3) := by decide +kernel
theorem d_Lm_isWind_4 : decode M_Lm_isWind.2.1 4 = .ok (.iload_n 0, 1) := by decide +kernel
theorem d_Lm_isWind_5 : decode M_Lm_isWind.2.1 5 = .ok (.iconst 2, 1) := by decide +kernel
theorem d_Lm_isWind_6 : decode M_Lm_isWind.2.1 6 = .ok (.if_icmp .gt 7, 3) := by decide +kernel
theorem d_Lm_isWind_9 : decode M_Lm_isWind.2.1 9 = .ok (.iconst 1, 1) := by decide +kernel
theorem d_Lm_isWind_10 : decode M_Lm_isWind.2.1 10 = .ok (.goto 4, 3) := by decide +kernel
theorem d_Lm_isWind_13 : decode M_Lm_isWind.2.1 13 = .ok (.iconst 0, 1) := by decide +kernel
theorem d_Lm_isWind_14 : decode M_Lm_isWind.2.1 14 = .ok (.ireturn, 1) := by decide +kernel
theorem d_Lm_isHoneyPlace_0 : decode M_Lm_isHoneyPlace.2.1 0 = .ok (.iload_n 0, 1) := by decide +kernel
theorem d_Lm_isHoneyPlace_1 : decode M_Lm_isHoneyPlace.2.1 1 = .ok (.ifCond .lt 13, 3) := by decide +kernel
theorem d_Lm_isHoneyPlace_4 : decode M_Lm_isHoneyPlace.2.1 4 = .ok (.iload_n 0, 1) := by decide +kernel
theorem d_Lm_isHoneyPlace_5 : decode M_Lm_isHoneyPlace.2.1 5 = .ok (.bipush 9, 2) := by decide +kernel
theorem d_Lm_isHoneyPlace_7 : decode M_Lm_isHoneyPlace.2.1 7 = .ok (.if_icmp .gt 7, 3) := by decide +kernel
theorem d_Lm_isHoneyPlace_10 : decode M_Lm_isHoneyPlace.2.1 10 = .ok (.iconst 1, 1) := by decide +kernel
theorem d_Lm_isHoneyPlace_11 : decode M_Lm_isHoneyPlace.2.1 11 = .ok (.goto 4, 3) := by decide +kernel
theorem d_Lm_isHoneyPlace_14 : decode M_Lm_isHoneyPlace.2.1 14 = .ok (.iconst 0, 1) := by decide +kernel
theorem d_Lm_isHoneyPlace_15 : decode M_Lm_isHoneyPlace.2.1 15 = .ok (.ireturn, 1) := by decide +kernel
theorem d_Lm_isSum_0 : decode M_Lm_isSum.2.1 0 = .ok (.iload_n 0, 1) := by decide +kernel
theorem d_Lm_isSum_1 : decode M_Lm_isSum.2.1 1 = .ok (.ifCond .lt 13, 3) := by decide +kernel
theorem d_Lm_isSum_4 : decode M_Lm_isSum.2.1 4 = .ok (.iload_n 0, 1) := by decide +kernel
theorem d_Lm_isSum_5 : decode M_Lm_isSum.2.1 5 = .ok (.bipush 99, 2) := by decide +kernel
theorem d_Lm_isSum_7 : decode M_Lm_isSum.2.1 7 = .ok (.if_icmp .gt 7, 3) := by decide +kernel
theorem d_Lm_isSum_10 : decode M_Lm_isSum.2.1 10 = .ok (.iconst 1, 1) := by decide +kernel
theorem d_Lm_isSum_11 : decode M_Lm_isSum.2.1 11 = .ok (.goto 4, 3) := by decide +kernel
theorem d_Lm_isSum_14 : decode M_Lm_isSum.2.1 14 = .ok (.iconst 0, 1) := by decide +kernel
theorem d_Lm_isSum_15 : decode M_Lm_isSum.2.1 15 = .ok (.ireturn, 1) := by decide +kernel
theorem d_Lm_readInto_0 : decode M_Lm_readInto.2.1 0 = .ok (.aload_n 0, 1) := by decide +kernel
theorem d_Lm_readInto_1 : decode M_Lm_readInto.2.1 1 = .ok (.getfield 30, 3) := by decide +kernel
theorem d_Lm_readInto_4 : decode M_Lm_readInto.2.1 4 = .ok (.aload_n 1, 1) := by decide +kernel
theorem d_Lm_readInto_5 : decode M_Lm_readInto.2.1 5 = .ok (.invokevirtual 233, 3) := by decide +kernel
theorem d_Lm_readInto_8 : decode M_Lm_readInto.2.1 8 = .ok (.iconst 0, 1) := by decide +kernel
theorem d_Lm_readInto_9 : decode M_Lm_readInto.2.1 9 = .ok (.istore_n 2, 1) := by decide +kernel
theorem d_Lm_readInto_10 : decode M_Lm_readInto.2.1 10 = .ok (.iload_n 2, 1) := by decide +kernel
theorem d_Lm_readInto_11 : decode M_Lm_readInto.2.1 11 = .ok (.aload_n 0, 1) := by decide +kernel
theorem d_Lm_readInto_12 : decode M_Lm_readInto.2.1 12 = .ok (.getfield 13, 3) := by decide +kernel
theorem d_Lm_readInto_15 : decode M_Lm_readInto.2.1 15 = .ok (.if_icmp .ge 34, 3) := by decide +kernel
theorem d_Lm_readInto_18 : decode M_Lm_readInto.2.1 18 = .ok (.iload_n 2, 1) := by decide +kernel
theorem d_Lm_readInto_19 : decode M_Lm_readInto.2.1 19 = .ok (.bipush 56, 2) := by decide +kernel
theorem d_Lm_readInto_21 : decode M_Lm_readInto.2.1 21 = .ok (.if_icmp .ge 28, 3) := by decide +kernel
theorem d_Lm_readInto_24 : decode M_Lm_readInto.2.1 24 = .ok (.aload_n 0, 1) := by decide +kernel
theorem d_Lm_readInto_25 : decode M_Lm_readInto.2.1 25 = .ok (.getfield 30, 3) := by decide +kernel
theorem d_Lm_readInto_28 : decode M_Lm_readInto.2.1 28 = .ok (.aload_n 0, 1) := by decide +kernel
theorem d_Lm_readInto_29 : decode M_Lm_readInto.2.1 29 = .ok (.getfield 9, 3) := by decide +kernel
theorem d_Lm_readInto_32 : decode M_Lm_readInto.2.1 32 = .ok (.iload_n 2, 1) := by decide +kernel
theorem d_Lm_readInto_33 : decode M_Lm_readInto.2.1 33 = .ok (.iaload, 1) := by decide +kernel
theorem d_Lm_readInto_34 : decode M_Lm_readInto.2.1 34 = .ok (.aload_n 1, 1) := by decide +kernel
theorem d_Lm_readInto_35 : decode M_Lm_readInto.2.1 35 = .ok (.invokevirtual 236, 3) := by decide +kernel
theorem d_Lm_readInto_38 : decode M_Lm_readInto.2.1 38 = .ok (.ifCond .ne 5, 3) := by decide +kernel
theorem d_Lm_readInto_41 : decode M_Lm_readInto.2.1 41 = .ok (.iload_n 2, 1) := by decide +kernel
theorem d_Lm_readInto_42 : decode M_Lm_readInto.2.1 42 = .ok (.ireturn, 1) := by decide +kernel
theorem d_Lm_readInto_43 : decode M_Lm_readInto.2.1 43 = .ok (.iinc 2 1, 3) := by decide +kernel
theorem d_Lm_readInto_46 : decode M_Lm_readInto.2.1 46 = .ok (.goto (-36), 3) := by decide +kernel
theorem d_Lm_readInto_49 : decode M_Lm_readInto.2.1 49 = .ok (.aload_n 0, 1) := by decide +kernel
theorem d_Lm_readInto_50 : decode M_Lm_readInto.2.1 50 = .ok (.getfield 30, 3) := by decide +kernel
theorem d_Lm_readInto_53 : decode M_Lm_readInto.2.1 53 = .ok (.invokevirtual 240, 3) := by decide +kernel
theorem d_Lm_readInto_56 : decode M_Lm_readInto.2.1 56 = .ok (.ifCond .eq 8, 3) := by decide +kernel
theorem d_Lm_readInto_59 : decode M_Lm_readInto.2.1 59 = .ok (.bipush (-9), 2) := by decide +kernel
theorem d_Lm_readInto_61 : decode M_Lm_readInto.2.1 61 = .ok (.goto 7, 3) := by decide +kernel
theorem d_Lm_readInto_64 : decode M_Lm_readInto.2.1 64 = .ok (.aload_n 0, 1) := by decide +kernel
theorem d_Lm_readInto_65 : decode M_Lm_readInto.2.1 65 = .ok (.getfield 13, 3) := by decide +kernel
theorem d_Lm_readInto_68 : decode M_Lm_readInto.2.1 68 = .ok (.ireturn, 1) := by decide +kernel
theorem d_Lm_turned_0 : decode M_Lm_turned.2.1 0 = .ok (.aload_n 0, 1) := by decide +kernel
theorem d_Lm_turned_1 : decode M_Lm_turned.2.1 1 = .ok (.getfield 20, 3) := by decide +kernel
theorem d_Lm_turned_4 : decode M_Lm_turned.2.1 4 = .ok (.iload_n 1, 1) := by decide +kernel
theorem d_Lm_turned_5 : decode M_Lm_turned.2.1 5 = .ok (.invokevirtual 101, 3) := by decide +kernel
theorem d_Lm_turned_8 : decode M_Lm_turned.2.1 8 = .ok (.ifCond .ne 5, 3) := by decide +kernel
theorem d_Lm_turned_11 : decode M_Lm_turned.2.1 11 = .ok (.iconst (-1), 1) := by decide +kernel
theorem d_Lm_turned_12 : decode M_Lm_turned.2.1 12 = .ok (.ireturn, 1) := by decide +kernel
theorem d_Lm_turned_13 : decode M_Lm_turned.2.1 13 = .ok (.aload_n 0, 1) := by decide +kernel
theorem d_Lm_turned_14 : decode M_Lm_turned.2.1 14 = .ok (.getfield 20, 3) := by decide +kernel
theorem d_Lm_turned_17 : decode M_Lm_turned.2.1 17 = .ok (.iload_n 1, 1) := by decide +kernel
theorem d_Lm_turned_18 : decode M_Lm_turned.2.1 18 = .ok (.iload_n 2, 1) := by decide +kernel
theorem d_Lm_turned_19 : decode M_Lm_turned.2.1 19 = .ok (.invokevirtual 243, 3) := by decide +kernel
theorem d_Lm_turned_22 : decode M_Lm_turned.2.1 22 = .ok (.ifCond .ne 6, 3) := by decide +kernel
theorem d_Lm_turned_25 : decode M_Lm_turned.2.1 25 = .ok (.bipush (-3), 2) := by decide +kernel
theorem d_Lm_turned_27 : decode M_Lm_turned.2.1 27 = .ok (.ireturn, 1) := by decide +kernel
theorem d_Lm_turned_28 : decode M_Lm_turned.2.1 28 = .ok (.aload_n 0, 1) := by decide +kernel
theorem d_Lm_turned_29 : decode M_Lm_turned.2.1 29 = .ok (.invokevirtual 152, 3) := by decide +kernel
theorem d_Lm_turned_32 : decode M_Lm_turned.2.1 32 = .ok (.aload_n 0, 1) := by decide +kernel
theorem d_Lm_turned_33 : decode M_Lm_turned.2.1 33 = .ok (.getfield 20, 3) := by decide +kernel
theorem d_Lm_turned_36 : decode M_Lm_turned.2.1 36 = .ok (.iload_n 1, 1) := by decide +kernel
theorem d_Lm_turned_37 : decode M_Lm_turned.2.1 37 = .ok (.iload_n 2, 1) := by decide +kernel
theorem d_Lm_turned_38 : decode M_Lm_turned.2.1 38 = .ok (.invokevirtual 246, 3) := by decide +kernel
theorem d_Lm_turned_41 : decode M_Lm_turned.2.1 41 = .ok (.pop, 1) := by decide +kernel
theorem d_Lm_turned_42 : decode M_Lm_turned.2.1 42 = .ok (.aload_n 0, 1) := by decide +kernel
theorem d_Lm_turned_43 : decode M_Lm_turned.2.1 43 = .ok (.getfield 20, 3) := by decide +kernel
theorem d_Lm_turned_46 : decode M_Lm_turned.2.1 46 = .ok (.getfield 108, 3) := by decide +kernel
theorem d_Lm_turned_49 : decode M_Lm_turned.2.1 49 = .ok (.iload_n 1, 1) := by decide +kernel
theorem d_Lm_turned_50 : decode M_Lm_turned.2.1 50 = .ok (.iaload, 1) := by decide +kernel
theorem d_Lm_turned_51 : decode M_Lm_turned.2.1 51 = .ok (.ireturn, 1) := by decide +kernel
theorem d_Lm_remember_0 : decode M_Lm_remember.2.1 0 = .ok (.aload_n 0, 1) := by decide +kernel
theorem d_Lm_remember_1 : decode M_Lm_remember.2.1 1 = .ok (.getfield 39, 3) := by decide +kernel
theorem d_Lm_remember_4 : decode M_Lm_remember.2.1 4 = .ok (.bipush 14, 2) := by decide +kernel
theorem d_Lm_remember_6 : decode M_Lm_remember.2.1 6 = .ok (.if_icmp .lt 7, 3) := by decide +kernel
theorem d_Lm_remember_9 : decode M_Lm_remember.2.1 9 = .ok (.aload_n 0, 1) := by decide +kernel
theorem d_Lm_remember_10 : decode M_Lm_remember.2.1 10 = .ok (.invokevirtual 249, 3) := by decide +kernel
theorem d_Lm_remember_13 : decode M_Lm_remember.2.1 13 = .ok (.aload_n 0, 1) := by decide +kernel
theorem d_Lm_remember_14 : decode M_Lm_remember.2.1 14 = .ok (.getfield 39, 3) := by decide +kernel
theorem d_Lm_remember_17 : decode M_Lm_remember.2.1 17 = .ok (.ifCond .lt 38, 3) := by decide +kernel
theorem d_Lm_remember_20 : decode M_Lm_remember.2.1 20 = .ok (.aload_n 0, 1) := by decide +kernel
theorem d_Lm_remember_21 : decode M_Lm_remember.2.1 21 = .ok (.getfield 39, 3) := by decide +kernel
theorem d_Lm_remember_24 : decode M_Lm_remember.2.1 24 = .ok (.bipush 14, 2) := by decide +kernel
theorem d_Lm_remember_26 : decode M_Lm_remember.2.1 26 = .ok (.if_icmp .ge 29, 3) := by decide +kernel
theorem d_Lm_remember_29 : decode M_Lm_remember.2.1 29 = .ok (.aload_n 0, 1) := by decide +kernel
theorem d_Lm_remember_30 : decode M_Lm_remember.2.1 30 = .ok (.getfield 20, 3) := by decide +kernel
theorem d_Lm_remember_33 : decode M_Lm_remember.2.1 33 = .ok (.aload_n 0, 1) := by decide +kernel
theorem d_Lm_remember_34 : decode M_Lm_remember.2.1 34 = .ok (.getfield 36, 3) := by decide +kernel
theorem d_Lm_remember_37 : decode M_Lm_remember.2.1 37 = .ok (.aload_n 0, 1) := by decide +kernel
theorem d_Lm_remember_38 : decode M_Lm_remember.2.1 38 = .ok (.getfield 39, 3) := by decide +kernel
theorem d_Lm_remember_41 : decode M_Lm_remember.2.1 41 = .ok (.aaload, 1) := by decide +kernel
theorem d_Lm_remember_42 : decode M_Lm_remember.2.1 42 = .ok (.invokevirtual 230, 3) := by decide +kernel
theorem d_Lm_remember_45 : decode M_Lm_remember.2.1 45 = .ok (.aload_n 0, 1) := by decide +kernel
theorem d_Lm_remember_46 : decode M_Lm_remember.2.1 46 = .ok (.dup, 1) := by decide +kernel
theorem d_Lm_remember_47 : decode M_Lm_remember.2.1 47 = .ok (.getfield 39, 3) := by decide +kernel
theorem d_Lm_remember_50 : decode M_Lm_remember.2.1 50 = .ok (.iconst 1, 1) := by decide +kernel
theorem d_Lm_remember_51 : decode M_Lm_remember.2.1 51 = .ok (.iadd, 1) := by decide +kernel
theorem d_Lm_remember_52 : decode M_Lm_remember.2.1 52 = .ok (.putfield 39, 3) := by decide +kernel
theorem d_Lm_remember_55 : decode M_Lm_remember.2.1 55 = .ok (.return_, 1) := by decide +kernel
theorem d_Lm_forgetFirstAct_0 : decode M_Lm_forgetFirstAct.2.1 0 = .ok (.aload_n 0, 1) := by decide +kernel
theorem d_Lm_forgetFirstAct_1 : decode M_Lm_forgetFirstAct.2.1 1 = .ok (.getfield 36, 3) := by decide +kernel
theorem d_Lm_forgetFirstAct_4 : decode M_Lm_forgetFirstAct.2.1 4 = .ok (.iconst 0, 1) := by decide +kernel
theorem d_Lm_forgetFirstAct_5 : decode M_Lm_forgetFirstAct.2.1 5 = .ok (.aaload, 1) := by decide +kernel
theorem d_Lm_forgetFirstAct_6 : decode M_Lm_forgetFirstAct.2.1 6 = .ok (.astore_n 1, 1) := by decide +kernel
theorem d_Lm_forgetFirstAct_7 : decode M_Lm_forgetFirstAct.2.1 7 = .ok (.iconst 1, 1) := by decide +kernel
theorem d_Lm_forgetFirstAct_8 : decode M_Lm_forgetFirstAct.2.1 8 = .ok (.istore_n 2, 1) := by decide +kernel
theorem d_Lm_forgetFirstAct_9 : decode M_Lm_forgetFirstAct.2.1 9 = .ok (.iload_n 2, 1) := by decide +kernel
theorem d_Lm_forgetFirstAct_10 : decode M_Lm_forgetFirstAct.2.1 10 = .ok (.bipush 14, 2) := by decide +kernel
theorem d_Lm_forgetFirstAct_12 : decode M_Lm_forgetFirstAct.2.1 12 = .ok (.if_icmp .ge 23, 3) := by decide +kernel
theorem d_Lm_forgetFirstAct_15 : decode M_Lm_forgetFirstAct.2.1 15 = .ok (.aload_n 0, 1) := by decide +kernel
theorem d_Lm_forgetFirstAct_16 : decode M_Lm_forgetFirstAct.2.1 16 = .ok (.getfield 36, 3) := by decide +kernel
theorem d_Lm_forgetFirstAct_19 : decode M_Lm_forgetFirstAct.2.1 19 = .ok (.iload_n 2, 1) := by decide +kernel
theorem d_Lm_forgetFirstAct_20 : decode M_Lm_forgetFirstAct.2.1 20 = .ok (.iconst 1, 1) := by decide +kernel
theorem d_Lm_forgetFirstAct_21 : decode M_Lm_forgetFirstAct.2.1 21 = .ok (.isub, 1) := by decide +kernel
theorem d_Lm_forgetFirstAct_22 : decode M_Lm_forgetFirstAct.2.1 22 = .ok (.aload_n 0, 1) := by decide +kernel
theorem d_Lm_forgetFirstAct_23 : decode M_Lm_forgetFirstAct.2.1 23 = .ok (.getfield 36, 3) := by decide +kernel
theorem d_Lm_forgetFirstAct_26 : decode M_Lm_forgetFirstAct.2.1 26 = .ok (.iload_n 2, 1) := by decide +kernel
theorem d_Lm_forgetFirstAct_27 : decode M_Lm_forgetFirstAct.2.1 27 = .ok (.aaload, 1) := by decide +kernel
theorem d_Lm_forgetFirstAct_28 : decode M_Lm_forgetFirstAct.2.1 28 = .ok (.aastore, 1) := by decide +kernel
theorem d_Lm_forgetFirstAct_29 : decode M_Lm_forgetFirstAct.2.1 29 = .ok (.iinc 2 1, 3) := by decide +kernel
theorem d_Lm_forgetFirstAct_32 : decode M_Lm_forgetFirstAct.2.1 32 = .ok (.goto (-23), 3) := by decide +kernel
theorem d_Lm_forgetFirstAct_35 : decode M_Lm_forgetFirstAct.2.1 35 = .ok (.aload_n 0, 1) := by decide +kernel
theorem d_Lm_forgetFirstAct_36 : decode M_Lm_forgetFirstAct.2.1 36 = .ok (.getfield 36, 3) := by decide +kernel
theorem d_Lm_forgetFirstAct_39 : decode M_Lm_forgetFirstAct.2.1 39 = .ok (.bipush 13, 2) := by decide +kernel
theorem d_Lm_forgetFirstAct_41 : decode M_Lm_forgetFirstAct.2.1 41 = .ok (.aload_n 1, 1) := by decide +kernel
theorem d_Lm_forgetFirstAct_42 : decode M_Lm_forgetFirstAct.2.1 42 = .ok (.aastore, 1) := by decide +kernel
theorem d_Lm_forgetFirstAct_43 : decode M_Lm_forgetFirstAct.2.1 43 = .ok (.aload_n 0, 1) := by decide +kernel
theorem d_Lm_forgetFirstAct_44 : decode M_Lm_forgetFirstAct.2.1 44 = .ok (.bipush 13, 2) := by decide +kernel
theorem d_Lm_forgetFirstAct_46 : decode M_Lm_forgetFirstAct.2.1 46 = .ok (.putfield 39, 3) := by decide +kernel
theorem d_Lm_forgetFirstAct_49 : decode M_Lm_forgetFirstAct.2.1 49 = .ok (.return_, 1) := by decide +kernel
theorem d_Lm_owesAtMost_0 : decode M_Lm_owesAtMost.2.1 0 = .ok (.iload_n 2, 1) := by decide +kernel
theorem d_Lm_owesAtMost_1 : decode M_Lm_owesAtMost.2.1 1 = .ok (.ifCond .lt 20, 3) := by decide +kernel
theorem d_Lm_owesAtMost_4 : decode M_Lm_owesAtMost.2.1 4 = .ok (.iload_n 2, 1) := by decide +kernel
theorem d_Lm_owesAtMost_5 : decode M_Lm_owesAtMost.2.1 5 = .ok (.bipush 9, 2) := by decide +kernel
theorem d_Lm_owesAtMost_7 : decode M_Lm_owesAtMost.2.1 7 = .ok (.if_icmp .gt 14, 3) := by decide +kernel
theorem d_Lm_owesAtMost_10 : decode M_Lm_owesAtMost.2.1 10 = .ok (.aload_n 0, 1) := by decide +kernel
theorem d_Lm_owesAtMost_11 : decode M_Lm_owesAtMost.2.1 11 = .ok (.getfield 20, 3) := by decide +kernel
theorem d_Lm_owesAtMost_14 : decode M_Lm_owesAtMost.2.1 14 = .ok (.iload_n 1, 1) := by decide +kernel
theorem d_Lm_owesAtMost_15 : decode M_Lm_owesAtMost.2.1 15 = .ok (.invokevirtual 101, 3) := by decide +kernel
theorem d_Lm_owesAtMost_18 : decode M_Lm_owesAtMost.2.1 18 = .ok (.ifCond .ne 5, 3) := by decide +kernel
theorem d_Lm_owesAtMost_21 : decode M_Lm_owesAtMost.2.1 21 = .ok (.iconst 0, 1) := by decide +kernel
theorem d_Lm_owesAtMost_22 : decode M_Lm_owesAtMost.2.1 22 = .ok (.ireturn, 1) := by decide +kernel
theorem d_Lm_owesAtMost_23 : decode M_Lm_owesAtMost.2.1 23 = .ok (.aload_n 0, 1) := by decide +kernel
theorem d_Lm_owesAtMost_24 : decode M_Lm_owesAtMost.2.1 24 = .ok (.getfield 24, 3) := by decide +kernel
theorem d_Lm_owesAtMost_27 : decode M_Lm_owesAtMost.2.1 27 = .ok (.aload_n 0, 1) := by decide +kernel
theorem d_Lm_owesAtMost_28 : decode M_Lm_owesAtMost.2.1 28 = .ok (.getfield 20, 3) := by decide +kernel
theorem d_Lm_owesAtMost_31 : decode M_Lm_owesAtMost.2.1 31 = .ok (.invokevirtual 72, 3) := by decide +kernel
theorem d_Lm_owesAtMost_34 : decode M_Lm_owesAtMost.2.1 34 = .ok (.aload_n 0, 1) := by decide +kernel
theorem d_Lm_owesAtMost_35 : decode M_Lm_owesAtMost.2.1 35 = .ok (.getfield 24, 3) := by decide +kernel
theorem d_Lm_owesAtMost_38 : decode M_Lm_owesAtMost.2.1 38 = .ok (.getfield 108, 3) := by decide +kernel
theorem d_Lm_owesAtMost_41 : decode M_Lm_owesAtMost.2.1 41 = .ok (.iload_n 1, 1) := by decide +kernel
theorem d_Lm_owesAtMost_42 : decode M_Lm_owesAtMost.2.1 42 = .ok (.iload_n 2, 1) := by decide +kernel
theorem d_Lm_owesAtMost_43 : decode M_Lm_owesAtMost.2.1 43 = .ok (.iastore, 1) := by decide +kernel
theorem d_Lm_owesAtMost_44 : decode M_Lm_owesAtMost.2.1 44 = .ok (.aload_n 0, 1) := by decide +kernel
theorem d_Lm_owesAtMost_45 : decode M_Lm_owesAtMost.2.1 45 = .ok (.getfield 24, 3) := by decide +kernel
theorem d_Lm_owesAtMost_48 : decode M_Lm_owesAtMost.2.1 48 = .ok (.iload_n 1, 1) := by decide +kernel
theorem d_Lm_owesAtMost_49 : decode M_Lm_owesAtMost.2.1 49 = .ok (.invokevirtual 114, 3) := by decide +kernel
theorem d_Lm_owesAtMost_52 : decode M_Lm_owesAtMost.2.1 52 = .ok (.iload_n 3, 1) := by decide +kernel
theorem d_Lm_owesAtMost_53 : decode M_Lm_owesAtMost.2.1 53 = .ok (.if_icmp .gt 7, 3) := by decide +kernel
theorem d_Lm_owesAtMost_56 : decode M_Lm_owesAtMost.2.1 56 = .ok (.iconst 1, 1) := by decide +kernel
theorem d_Lm_owesAtMost_57 : decode M_Lm_owesAtMost.2.1 57 = .ok (.goto 4, 3) := by decide +kernel
theorem d_Lm_owesAtMost_60 : decode M_Lm_owesAtMost.2.1 60 = .ok (.iconst 0, 1) := by decide +kernel
theorem d_Lm_owesAtMost_61 : decode M_Lm_owesAtMost.2.1 61 = .ok (.ireturn, 1) := by decide +kernel
theorem d_Lm_didOnTrial_0 : decode M_Lm_didOnTrial.2.1 0 = .ok (.iload_n 1, 1) := by decide +kernel
theorem d_Lm_didOnTrial_1 : decode M_Lm_didOnTrial.2.1 1 = .ok (.tableswitch 77 0 4 #[35, 45, 55, 65, 71], 35) := by decide +kernel
theorem d_Lm_didOnTrial_36 : decode M_Lm_didOnTrial.2.1 36 = .ok (.iload_n 2, 1) := by decide +kernel
theorem d_Lm_didOnTrial_37 : decode M_Lm_didOnTrial.2.1 37 = .ok (.ifCond .ne 7, 3) := by decide +kernel
theorem d_Lm_didOnTrial_40 : decode M_Lm_didOnTrial.2.1 40 = .ok (.iconst 1, 1) := by decide +kernel
theorem d_Lm_didOnTrial_41 : decode M_Lm_didOnTrial.2.1 41 = .ok (.goto 4, 3) := by decide +kernel
theorem d_Lm_didOnTrial_44 : decode M_Lm_didOnTrial.2.1 44 = .ok (.iconst 0, 1) := by decide +kernel
theorem d_Lm_didOnTrial_45 : decode M_Lm_didOnTrial.2.1 45 = .ok (.ireturn, 1) := by decide +kernel
theorem d_Lm_didOnTrial_46 : decode M_Lm_didOnTrial.2.1 46 = .ok (.aload_n 0, 1) := by decide +kernel
theorem d_Lm_didOnTrial_47 : decode M_Lm_didOnTrial.2.1 47 = .ok (.getfield 24, 3) := by decide +kernel
theorem d_Lm_didOnTrial_50 : decode M_Lm_didOnTrial.2.1 50 = .ok (.iload_n 2, 1) := by decide +kernel
theorem d_Lm_didOnTrial_51 : decode M_Lm_didOnTrial.2.1 51 = .ok (.iconst 1, 1) := by decide +kernel
theorem d_Lm_didOnTrial_52 : decode M_Lm_didOnTrial.2.1 52 = .ok (.invokevirtual 246, 3) := by decide +kernel
theorem d_Lm_didOnTrial_55 : decode M_Lm_didOnTrial.2.1 55 = .ok (.ireturn, 1) := by decide +kernel
theorem d_Lm_didOnTrial_56 : decode M_Lm_didOnTrial.2.1 56 = .ok (.aload_n 0, 1) := by decide +kernel
theorem d_Lm_didOnTrial_57 : decode M_Lm_didOnTrial.2.1 57 = .ok (.getfield 24, 3) := by decide +kernel
theorem d_Lm_didOnTrial_60 : decode M_Lm_didOnTrial.2.1 60 = .ok (.iload_n 2, 1) := by decide +kernel
theorem d_Lm_didOnTrial_61 : decode M_Lm_didOnTrial.2.1 61 = .ok (.iconst (-1), 1) := by decide +kernel
theorem d_Lm_didOnTrial_62 : decode M_Lm_didOnTrial.2.1 62 = .ok (.invokevirtual 246, 3) := by decide +kernel
theorem d_Lm_didOnTrial_65 : decode M_Lm_didOnTrial.2.1 65 = .ok (.ireturn, 1) := by decide +kernel
theorem d_Lm_didOnTrial_66 : decode M_Lm_didOnTrial.2.1 66 = .ok (.aload_n 0, 1) := by decide +kernel
theorem d_Lm_didOnTrial_67 : decode M_Lm_didOnTrial.2.1 67 = .ok (.iload_n 2, 1) := by decide +kernel
theorem d_Lm_didOnTrial_68 : decode M_Lm_didOnTrial.2.1 68 = .ok (.invokevirtual 252, 3) := by decide +kernel
theorem d_Lm_didOnTrial_71 : decode M_Lm_didOnTrial.2.1 71 = .ok (.ireturn, 1) := by decide +kernel
theorem d_Lm_didOnTrial_72 : decode M_Lm_didOnTrial.2.1 72 = .ok (.aload_n 0, 1) := by decide +kernel
theorem d_Lm_didOnTrial_73 : decode M_Lm_didOnTrial.2.1 73 = .ok (.iload_n 2, 1) := by decide +kernel
theorem d_Lm_didOnTrial_74 : decode M_Lm_didOnTrial.2.1 74 = .ok (.invokevirtual 255, 3) := by decide +kernel
theorem d_Lm_didOnTrial_77 : decode M_Lm_didOnTrial.2.1 77 = .ok (.ireturn, 1) := by decide +kernel
theorem d_Lm_didOnTrial_78 : decode M_Lm_didOnTrial.2.1 78 = .ok (.iconst 0, 1) := by decide +kernel
theorem d_Lm_didOnTrial_79 : decode M_Lm_didOnTrial.2.1 79 = .ok (.ireturn, 1) := by decide +kernel
theorem d_Lm_blewOnTrial_0 : decode M_Lm_blewOnTrial.2.1 0 = .ok (.iload_n 1, 1) := by decide +kernel
theorem d_Lm_blewOnTrial_1 : decode M_Lm_blewOnTrial.2.1 1 = .ok (.invokestatic 149, 3) := by decide +kernel
theorem d_Lm_blewOnTrial_4 : decode M_Lm_blewOnTrial.2.1 4 = .ok (.ifCond .eq 14, 3) := by decide +kernel
theorem d_Lm_blewOnTrial_7 : decode M_Lm_blewOnTrial.2.1 7 = .ok (.aload_n 0, 1) := by decide +kernel
theorem d_Lm_blewOnTrial_8 : decode M_Lm_blewOnTrial.2.1 8 = .ok (.getfield 24, 3) := by decide +kernel
theorem d_Lm_blewOnTrial_11 : decode M_Lm_blewOnTrial.2.1 11 = .ok (.getfield 82, 3) := by decide +kernel
theorem d_Lm_blewOnTrial_14 : decode M_Lm_blewOnTrial.2.1 14 = .ok (.iload_n 1, 1) := by decide +kernel
theorem d_Lm_blewOnTrial_15 : decode M_Lm_blewOnTrial.2.1 15 = .ok (.if_icmp .ne 5, 3) := by decide +kernel
theorem d_Lm_blewOnTrial_18 : decode M_Lm_blewOnTrial.2.1 18 = .ok (.iconst 0, 1) := by decide +kernel
theorem d_Lm_blewOnTrial_19 : decode M_Lm_blewOnTrial.2.1 19 = .ok (.ireturn, 1) := by decide +kernel
theorem d_Lm_blewOnTrial_20 : decode M_Lm_blewOnTrial.2.1 20 = .ok (.aload_n 0, 1) := by decide +kernel
theorem d_Lm_blewOnTrial_21 : decode M_Lm_blewOnTrial.2.1 21 = .ok (.getfield 24, 3) := by decide +kernel
theorem d_Lm_blewOnTrial_24 : decode M_Lm_blewOnTrial.2.1 24 = .ok (.iload_n 1, 1) := by decide +kernel
theorem d_Lm_blewOnTrial_25 : decode M_Lm_blewOnTrial.2.1 25 = .ok (.putfield 82, 3) := by decide +kernel
theorem d_Lm_blewOnTrial_28 : decode M_Lm_blewOnTrial.2.1 28 = .ok (.iconst 1, 1) := by decide +kernel
theorem d_Lm_blewOnTrial_29 : decode M_Lm_blewOnTrial.2.1 29 = .ok (.ireturn, 1) := by decide +kernel
theorem d_Lm_movedOnTrial_0 : decode M_Lm_movedOnTrial.2.1 0 = .ok (.iload_n 1, 1) := by decide +kernel
theorem d_Lm_movedOnTrial_1 : decode M_Lm_movedOnTrial.2.1 1 = .ok (.invokestatic 155, 3) := by decide +kernel
theorem d_Lm_movedOnTrial_4 : decode M_Lm_movedOnTrial.2.1 4 = .ok (.ifCond .eq 14, 3) := by decide +kernel
theorem d_Lm_movedOnTrial_7 : decode M_Lm_movedOnTrial.2.1 7 = .ok (.aload_n 0, 1) := by decide +kernel
theorem d_Lm_movedOnTrial_8 : decode M_Lm_movedOnTrial.2.1 8 = .ok (.getfield 24, 3) := by decide +kernel
theorem d_Lm_movedOnTrial_11 : decode M_Lm_movedOnTrial.2.1 11 = .ok (.getfield 85, 3) := by decide +kernel
theorem d_Lm_movedOnTrial_14 : decode M_Lm_movedOnTrial.2.1 14 = .ok (.iload_n 1, 1) := by decide +kernel
theorem d_Lm_movedOnTrial_15 : decode M_Lm_movedOnTrial.2.1 15 = .ok (.if_icmp .ne 5, 3) := by decide +kernel
theorem d_Lm_movedOnTrial_18 : decode M_Lm_movedOnTrial.2.1 18 = .ok (.iconst 0, 1) := by decide +kernel
theorem d_Lm_movedOnTrial_19 : decode M_Lm_movedOnTrial.2.1 19 = .ok (.ireturn, 1) := by decide +kernel
theorem d_Lm_movedOnTrial_20 : decode M_Lm_movedOnTrial.2.1 20 = .ok (.aload_n 0, 1) := by decide +kernel
theorem d_Lm_movedOnTrial_21 : decode M_Lm_movedOnTrial.2.1 21 = .ok (.getfield 24, 3) := by decide +kernel
theorem d_Lm_movedOnTrial_24 : decode M_Lm_movedOnTrial.2.1 24 = .ok (.iload_n 1, 1) := by decide +kernel
theorem d_Lm_movedOnTrial_25 : decode M_Lm_movedOnTrial.2.1 25 = .ok (.putfield 85, 3) := by decide +kernel
theorem d_Lm_movedOnTrial_28 : decode M_Lm_movedOnTrial.2.1 28 = .ok (.iconst 1, 1) := by decide +kernel
theorem d_Lm_movedOnTrial_29 : decode M_Lm_movedOnTrial.2.1 29 = .ok (.ireturn, 1) := by decide +kernel
theorem d_Lm_reckonGroups_0 : decode M_Lm_reckonGroups.2.1 0 = .ok (.iconst 1, 1) := by decide +kernel
theorem d_Lm_reckonGroups_1 : decode M_Lm_reckonGroups.2.1 1 = .ok (.aload_n 0, 1) := by decide +kernel
theorem d_Lm_reckonGroups_2 : decode M_Lm_reckonGroups.2.1 2 = .ok (.getfield 20, 3) := by decide +kernel
theorem d_Lm_reckonGroups_5 : decode M_Lm_reckonGroups.2.1 5 = .ok (.getfield 76, 3) := by decide +kernel
theorem d_Lm_reckonGroups_8 : decode M_Lm_reckonGroups.2.1 8 = .ok (.ishl, 1) := by decide +kernel
theorem d_Lm_reckonGroups_9 : decode M_Lm_reckonGroups.2.1 9 = .ok (.istore_n 1, 1) := by decide +kernel
theorem d_Lm_reckonGroups_10 : decode M_Lm_reckonGroups.2.1 10 = .ok (.iconst 0, 1) := by decide +kernel
theorem d_Lm_reckonGroups_11 : decode M_Lm_reckonGroups.2.1 11 = .ok (.istore_n 2, 1) := by decide +kernel
theorem d_Lm_reckonGroups_12 : decode M_Lm_reckonGroups.2.1 12 = .ok (.iload_n 2, 1) := by decide +kernel
theorem d_Lm_reckonGroups_13 : decode M_Lm_reckonGroups.2.1 13 = .ok (.iload_n 1, 1) := by decide +kernel
theorem d_Lm_reckonGroups_14 : decode M_Lm_reckonGroups.2.1 14 = .ok (.if_icmp .ge 76, 3) := by decide +kernel
theorem d_Lm_reckonGroups_17 : decode M_Lm_reckonGroups.2.1 17 = .ok (.iload_n 2, 1) := by decide +kernel
theorem d_Lm_reckonGroups_18 : decode M_Lm_reckonGroups.2.1 18 = .ok (.bipush 32, 2) := by decide +kernel
theorem d_Lm_reckonGroups_20 : decode M_Lm_reckonGroups.2.1 20 = .ok (.if_icmp .ge 70, 3) := by decide +kernel
theorem d_Lm_reckonGroups_23 : decode M_Lm_reckonGroups.2.1 23 = .ok (.aload_n 0, 1) := by decide +kernel
theorem d_Lm_reckonGroups_24 : decode M_Lm_reckonGroups.2.1 24 = .ok (.getfield 24, 3) := by decide +kernel
theorem d_Lm_reckonGroups_27 : decode M_Lm_reckonGroups.2.1 27 = .ok (.aload_n 0, 1) := by decide +kernel
theorem d_Lm_reckonGroups_28 : decode M_Lm_reckonGroups.2.1 28 = .ok (.getfield 20, 3) := by decide +kernel
theorem d_Lm_reckonGroups_31 : decode M_Lm_reckonGroups.2.1 31 = .ok (.invokevirtual 72, 3) := by decide +kernel
theorem d_Lm_reckonGroups_34 : decode M_Lm_reckonGroups.2.1 34 = .ok (.iconst 0, 1) := by decide +kernel
theorem d_Lm_reckonGroups_35 : decode M_Lm_reckonGroups.2.1 35 = .ok (.istore_n 3, 1) := by decide +kernel
theorem d_Lm_reckonGroups_36 : decode M_Lm_reckonGroups.2.1 36 = .ok (.iload_n 3, 1) := by decide +kernel
theorem d_Lm_reckonGroups_37 : decode M_Lm_reckonGroups.2.1 37 = .ok (.aload_n 0, 1) := by decide +kernel
theorem d_Lm_reckonGroups_38 : decode M_Lm_reckonGroups.2.1 38 = .ok (.getfield 20, 3) := by decide +kernel
theorem d_Lm_reckonGroups_41 : decode M_Lm_reckonGroups.2.1 41 = .ok (.getfield 76, 3) := by decide +kernel
theorem d_Lm_reckonGroups_44 : decode M_Lm_reckonGroups.2.1 44 = .ok (.if_icmp .ge 27, 3) := by decide +kernel
theorem d_Lm_reckonGroups_47 : decode M_Lm_reckonGroups.2.1 47 = .ok (.iload_n 2, 1) := by decide +kernel
theorem d_Lm_reckonGroups_48 : decode M_Lm_reckonGroups.2.1 48 = .ok (.iload_n 3, 1) := by decide +kernel
theorem d_Lm_reckonGroups_49 : decode M_Lm_reckonGroups.2.1 49 = .ok (.ishr, 1) := by decide +kernel
theorem d_Lm_reckonGroups_50 : decode M_Lm_reckonGroups.2.1 50 = .ok (.iconst 1, 1) := by decide +kernel
theorem d_Lm_reckonGroups_51 : decode M_Lm_reckonGroups.2.1 51 = .ok (.iand, 1) := by decide +kernel
theorem d_Lm_reckonGroups_52 : decode M_Lm_reckonGroups.2.1 52 = .ok (.ifCond .ne 13, 3) := by decide +kernel
theorem d_Lm_reckonGroups_55 : decode M_Lm_reckonGroups.2.1 55 = .ok (.aload_n 0, 1) := by decide +kernel
theorem d_Lm_reckonGroups_56 : decode M_Lm_reckonGroups.2.1 56 = .ok (.getfield 24, 3) := by decide +kernel
theorem d_Lm_reckonGroups_59 : decode M_Lm_reckonGroups.2.1 59 = .ok (.getfield 108, 3) := by decide +kernel
theorem d_Lm_reckonGroups_62 : decode M_Lm_reckonGroups.2.1 62 = .ok (.iload_n 3, 1) := by decide +kernel
theorem d_Lm_reckonGroups_63 : decode M_Lm_reckonGroups.2.1 63 = .ok (.iconst 0, 1) := by decide +kernel
theorem d_Lm_reckonGroups_64 : decode M_Lm_reckonGroups.2.1 64 = .ok (.iastore, 1) := by decide +kernel
theorem d_Lm_reckonGroups_65 : decode M_Lm_reckonGroups.2.1 65 = .ok (.iinc 3 1, 3) := by decide +kernel
theorem d_Lm_reckonGroups_68 : decode M_Lm_reckonGroups.2.1 68 = .ok (.goto (-32), 3) := by decide +kernel
theorem d_Lm_reckonGroups_71 : decode M_Lm_reckonGroups.2.1 71 = .ok (.aload_n 0, 1) := by decide +kernel
theorem d_Lm_reckonGroups_72 : decode M_Lm_reckonGroups.2.1 72 = .ok (.getfield 61, 3) := by decide +kernel
theorem d_Lm_reckonGroups_75 : decode M_Lm_reckonGroups.2.1 75 = .ok (.iload_n 2, 1) := by decide +kernel
theorem d_Lm_reckonGroups_76 : decode M_Lm_reckonGroups.2.1 76 = .ok (.aload_n 0, 1) := by decide +kernel
theorem d_Lm_reckonGroups_77 : decode M_Lm_reckonGroups.2.1 77 = .ok (.getfield 24, 3) := by decide +kernel
theorem d_Lm_reckonGroups_80 : decode M_Lm_reckonGroups.2.1 80 = .ok (.invokevirtual 95, 3) := by decide +kernel
theorem d_Lm_reckonGroups_83 : decode M_Lm_reckonGroups.2.1 83 = .ok (.iastore, 1) := by decide +kernel
theorem d_Lm_reckonGroups_84 : decode M_Lm_reckonGroups.2.1 84 = .ok (.iinc 2 1, 3) := by decide +kernel
theorem d_Lm_reckonGroups_87 : decode M_Lm_reckonGroups.2.1 87 = .ok (.goto (-75), 3) := by decide +kernel
theorem d_Lm_reckonGroups_90 : decode M_Lm_reckonGroups.2.1 90 = .ok (.return_, 1) := by decide +kernel
theorem d_Lm_ordersWith_0 : decode M_Lm_ordersWith.2.1 0 = .ok (.iload_n 1, 1) := by decide +kernel
theorem d_Lm_ordersWith_1 : decode M_Lm_ordersWith.2.1 1 = .ok (.invokestatic 204, 3) := by decide +kernel
theorem d_Lm_ordersWith_4 : decode M_Lm_ordersWith.2.1 4 = .ok (.aload_n 0, 1) := by decide +kernel
theorem d_Lm_ordersWith_5 : decode M_Lm_ordersWith.2.1 5 = .ok (.getfield 20, 3) := by decide +kernel
theorem d_Lm_ordersWith_8 : decode M_Lm_ordersWith.2.1 8 = .ok (.getfield 76, 3) := by decide +kernel
theorem d_Lm_ordersWith_11 : decode M_Lm_ordersWith.2.1 11 = .ok (.iconst 1, 1) := by decide +kernel
theorem d_Lm_ordersWith_12 : decode M_Lm_ordersWith.2.1 12 = .ok (.isub, 1) := by decide +kernel
theorem d_Lm_ordersWith_13 : decode M_Lm_ordersWith.2.1 13 = .ok (.iload_n 1, 1) := by decide +kernel
theorem d_Lm_ordersWith_14 : decode M_Lm_ordersWith.2.1 14 = .ok (.isub, 1) := by decide +kernel
theorem d_Lm_ordersWith_15 : decode M_Lm_ordersWith.2.1 15 = .ok (.invokestatic 204, 3) := by decide +kernel
theorem d_Lm_ordersWith_18 : decode M_Lm_ordersWith.2.1 18 = .ok (.imul, 1) := by decide +kernel
theorem d_Lm_ordersWith_19 : decode M_Lm_ordersWith.2.1 19 = .ok (.ireturn, 1) := by decide +kernel
theorem d_Lm_trialFitsCounted_0 : decode M_Lm_trialFitsCounted.2.1 0 = .ok (.iconst 0, 1) := by decide +kernel
theorem d_Lm_trialFitsCounted_1 : decode M_Lm_trialFitsCounted.2.1 1 = .ok (.istore_n 1, 1) := by decide +kernel
theorem d_Lm_trialFitsCounted_2 : decode M_Lm_trialFitsCounted.2.1 2 = .ok (.iload_n 1, 1) := by decide +kernel
theorem d_Lm_trialFitsCounted_3 : decode M_Lm_trialFitsCounted.2.1 3 = .ok (.aload_n 0, 1) := by decide +kernel
theorem d_Lm_trialFitsCounted_4 : decode M_Lm_trialFitsCounted.2.1 4 = .ok (.getfield 58, 3) := by decide +kernel
theorem d_Lm_trialFitsCounted_7 : decode M_Lm_trialFitsCounted.2.1 7 = .ok (.if_icmp .ge 65, 3) := by decide +kernel
theorem d_Lm_trialFitsCounted_10 : decode M_Lm_trialFitsCounted.2.1 10 = .ok (.iload_n 1, 1) := by decide +kernel
theorem d_Lm_trialFitsCounted_11 : decode M_Lm_trialFitsCounted.2.1 11 = .ok (.bipush 6, 2) := by decide +kernel
theorem d_Lm_trialFitsCounted_13 : decode M_Lm_trialFitsCounted.2.1 13 = .ok (.if_icmp .ge 59, 3) := by decide +kernel
theorem d_Lm_trialFitsCounted_16 : decode M_Lm_trialFitsCounted.2.1 16 = .ok (.aload_n 0, 1) := by decide +kernel
theorem d_Lm_trialFitsCounted_17 : decode M_Lm_trialFitsCounted.2.1 17 = .ok (.getfield 49, 3) := by decide +kernel
theorem d_Lm_trialFitsCounted_20 : decode M_Lm_trialFitsCounted.2.1 20 = .ok (.iload_n 1, 1) := by decide +kernel
theorem d_Lm_trialFitsCounted_21 : decode M_Lm_trialFitsCounted.2.1 21 = .ok (.iaload, 1) := by decide +kernel
theorem d_Lm_trialFitsCounted_22 : decode M_Lm_trialFitsCounted.2.1 22 = .ok (.istore_n 2, 1) := by decide +kernel
theorem d_Lm_trialFitsCounted_23 : decode M_Lm_trialFitsCounted.2.1 23 = .ok (.aload_n 0, 1) := by decide +kernel
theorem d_Lm_trialFitsCounted_24 : decode M_Lm_trialFitsCounted.2.1 24 = .ok (.getfield 24, 3) := by decide +kernel
theorem d_Lm_trialFitsCounted_27 : decode M_Lm_trialFitsCounted.2.1 27 = .ok (.iload_n 2, 1) := by decide +kernel
theorem d_Lm_trialFitsCounted_28 : decode M_Lm_trialFitsCounted.2.1 28 = .ok (.invokevirtual 101, 3) := by decide +kernel
theorem d_Lm_trialFitsCounted_31 : decode M_Lm_trialFitsCounted.2.1 31 = .ok (.ifCond .eq 35, 3) := by decide +kernel
theorem d_Lm_trialFitsCounted_34 : decode M_Lm_trialFitsCounted.2.1 34 = .ok (.aload_n 0, 1) := by decide +kernel
theorem d_Lm_trialFitsCounted_35 : decode M_Lm_trialFitsCounted.2.1 35 = .ok (.getfield 24, 3) := by decide +kernel
theorem d_Lm_trialFitsCounted_38 : decode M_Lm_trialFitsCounted.2.1 38 = .ok (.aload_n 0, 1) := by decide +kernel
theorem d_Lm_trialFitsCounted_39 : decode M_Lm_trialFitsCounted.2.1 39 = .ok (.getfield 52, 3) := by decide +kernel
theorem d_Lm_trialFitsCounted_42 : decode M_Lm_trialFitsCounted.2.1 42 = .ok (.iload_n 1, 1) := by decide +kernel
theorem d_Lm_trialFitsCounted_43 : decode M_Lm_trialFitsCounted.2.1 43 = .ok (.iaload, 1) := by decide +kernel
theorem d_Lm_trialFitsCounted_44 : decode M_Lm_trialFitsCounted.2.1 44 = .ok (.putfield 82, 3) := by decide +kernel
theorem d_Lm_trialFitsCounted_47 : decode M_Lm_trialFitsCounted.2.1 47 = .ok (.aload_n 0, 1) := by decide +kernel
theorem d_Lm_trialFitsCounted_48 : decode M_Lm_trialFitsCounted.2.1 48 = .ok (.getfield 24, 3) := by decide +kernel
theorem d_Lm_trialFitsCounted_51 : decode M_Lm_trialFitsCounted.2.1 51 = .ok (.iload_n 2, 1) := by decide +kernel
theorem d_Lm_trialFitsCounted_52 : decode M_Lm_trialFitsCounted.2.1 52 = .ok (.invokevirtual 114, 3) := by decide +kernel
theorem d_Lm_trialFitsCounted_55 : decode M_Lm_trialFitsCounted.2.1 55 = .ok (.aload_n 0, 1) := by decide +kernel
theorem d_Lm_trialFitsCounted_56 : decode M_Lm_trialFitsCounted.2.1 56 = .ok (.getfield 55, 3) := by decide +kernel
theorem d_Lm_trialFitsCounted_59 : decode M_Lm_trialFitsCounted.2.1 59 = .ok (.iload_n 1, 1) := by decide +kernel
theorem d_Lm_trialFitsCounted_60 : decode M_Lm_trialFitsCounted.2.1 60 = .ok (.iaload, 1) := by decide +kernel
theorem d_Lm_trialFitsCounted_61 : decode M_Lm_trialFitsCounted.2.1 61 = .ok (.if_icmp .eq 5, 3) := by decide +kernel
theorem d_Lm_trialFitsCounted_64 : decode M_Lm_trialFitsCounted.2.1 64 = .ok (.iconst 0, 1) := by decide +kernel
theorem d_Lm_trialFitsCounted_65 : decode M_Lm_trialFitsCounted.2.1 65 = .ok (.ireturn, 1) := by decide +kernel
theorem d_Lm_trialFitsCounted_66 : decode M_Lm_trialFitsCounted.2.1 66 = .ok (.iinc 1 1, 3) := by decide +kernel
theorem d_Lm_trialFitsCounted_69 : decode M_Lm_trialFitsCounted.2.1 69 = .ok (.goto (-67), 3) := by decide +kernel
theorem d_Lm_trialFitsCounted_72 : decode M_Lm_trialFitsCounted.2.1 72 = .ok (.iconst 1, 1) := by decide +kernel
theorem d_Lm_trialFitsCounted_73 : decode M_Lm_trialFitsCounted.2.1 73 = .ok (.ireturn, 1) := by decide +kernel
theorem d_Lm_gain_0 : decode M_Lm_gain.2.1 0 = .ok (.aload_n 0, 1) := by decide +kernel
theorem d_Lm_gain_1 : decode M_Lm_gain.2.1 1 = .ok (.getfield 20, 3) := by decide +kernel
theorem d_Lm_gain_4 : decode M_Lm_gain.2.1 4 = .ok (.iload_n 1, 1) := by decide +kernel
theorem d_Lm_gain_5 : decode M_Lm_gain.2.1 5 = .ok (.invokevirtual 101, 3) := by decide +kernel
theorem d_Lm_gain_8 : decode M_Lm_gain.2.1 8 = .ok (.ifCond .eq 14, 3) := by decide +kernel
theorem d_Lm_gain_11 : decode M_Lm_gain.2.1 11 = .ok (.aload_n 0, 1) := by decide +kernel
theorem d_Lm_gain_12 : decode M_Lm_gain.2.1 12 = .ok (.getfield 20, 3) := by decide +kernel
theorem d_Lm_gain_15 : decode M_Lm_gain.2.1 15 = .ok (.iload_n 2, 1) := by decide +kernel
theorem d_Lm_gain_16 : decode M_Lm_gain.2.1 16 = .ok (.invokevirtual 101, 3) := by decide +kernel
theorem d_Lm_gain_19 : decode M_Lm_gain.2.1 19 = .ok (.ifCond .ne 5, 3) := by decide +kernel
theorem d_Lm_gain_22 : decode M_Lm_gain.2.1 22 = .ok (.iconst 0, 1) := by decide +kernel
theorem d_Lm_gain_23 : decode M_Lm_gain.2.1 23 = .ok (.ireturn, 1) := by decide +kernel
theorem d_Lm_gain_24 : decode M_Lm_gain.2.1 24 = .ok (.aload_n 0, 1) := by decide +kernel
theorem d_Lm_gain_25 : decode M_Lm_gain.2.1 25 = .ok (.getfield 24, 3) := by decide +kernel
theorem d_Lm_gain_28 : decode M_Lm_gain.2.1 28 = .ok (.aload_n 0, 1) := by decide +kernel
theorem d_Lm_gain_29 : decode M_Lm_gain.2.1 29 = .ok (.getfield 20, 3) := by decide +kernel
theorem d_Lm_gain_32 : decode M_Lm_gain.2.1 32 = .ok (.invokevirtual 72, 3) := by decide +kernel
theorem d_Lm_gain_35 : decode M_Lm_gain.2.1 35 = .ok (.iload_n 3, 1) := by decide +kernel
theorem d_Lm_gain_36 : decode M_Lm_gain.2.1 36 = .ok (.ifCond .ne 13, 3) := by decide +kernel
theorem d_Lm_gain_39 : decode M_Lm_gain.2.1 39 = .ok (.aload_n 0, 1) := by decide +kernel
theorem d_Lm_gain_40 : decode M_Lm_gain.2.1 40 = .ok (.getfield 24, 3) := by decide +kernel
theorem d_Lm_gain_43 : decode M_Lm_gain.2.1 43 = .ok (.getfield 108, 3) := by decide +kernel
theorem d_Lm_gain_46 : decode M_Lm_gain.2.1 46 = .ok (.iload_n 1, 1) := by decide +kernel
theorem d_Lm_gain_47 : decode M_Lm_gain.2.1 47 = .ok (.iconst 0, 1) := by decide +kernel
theorem d_Lm_gain_48 : decode M_Lm_gain.2.1 48 = .ok (.iastore, 1) := by decide +kernel
theorem d_Lm_gain_49 : decode M_Lm_gain.2.1 49 = .ok (.iload 4, 2) := by decide +kernel
theorem d_Lm_gain_51 : decode M_Lm_gain.2.1 51 = .ok (.ifCond .ne 13, 3) := by decide +kernel
theorem d_Lm_gain_54 : decode M_Lm_gain.2.1 54 = .ok (.aload_n 0, 1) := by decide +kernel
theorem d_Lm_gain_55 : decode M_Lm_gain.2.1 55 = .ok (.getfield 24, 3) := by decide +kernel
theorem d_Lm_gain_58 : decode M_Lm_gain.2.1 58 = .ok (.getfield 108, 3) := by decide +kernel
theorem d_Lm_gain_61 : decode M_Lm_gain.2.1 61 = .ok (.iload_n 2, 1) := by decide +kernel
theorem d_Lm_gain_62 : decode M_Lm_gain.2.1 62 = .ok (.iconst 0, 1) := by decide +kernel
theorem d_Lm_gain_63 : decode M_Lm_gain.2.1 63 = .ok (.iastore, 1) := by decide +kernel
theorem d_Lm_gain_64 : decode M_Lm_gain.2.1 64 = .ok (.iload_n 3, 1) := by decide +kernel
theorem d_Lm_gain_65 : decode M_Lm_gain.2.1 65 = .ok (.iconst 1, 1) := by decide +kernel
theorem d_Lm_gain_66 : decode M_Lm_gain.2.1 66 = .ok (.if_icmp .ne 14, 3) := by decide +kernel
theorem d_Lm_gain_69 : decode M_Lm_gain.2.1 69 = .ok (.iconst 5, 1) := by decide +kernel
theorem d_Lm_gain_70 : decode M_Lm_gain.2.1 70 = .ok (.aload_n 0, 1) := by decide +kernel
theorem d_Lm_gain_71 : decode M_Lm_gain.2.1 71 = .ok (.getfield 24, 3) := by decide +kernel
theorem d_Lm_gain_74 : decode M_Lm_gain.2.1 74 = .ok (.iload_n 1, 1) := by decide +kernel
theorem d_Lm_gain_75 : decode M_Lm_gain.2.1 75 = .ok (.invokevirtual 114, 3) := by decide +kernel
theorem d_Lm_gain_78 : decode M_Lm_gain.2.1 78 = .ok (.isub, 1) := by decide +kernel
theorem d_Lm_gain_79 : decode M_Lm_gain.2.1 79 = .ok (.ireturn, 1) := by decide +kernel
theorem d_Lm_gain_80 : decode M_Lm_gain.2.1 80 = .ok (.aload_n 0, 1) := by decide +kernel
theorem d_Lm_gain_81 : decode M_Lm_gain.2.1 81 = .ok (.getfield 24, 3) := by decide +kernel
theorem d_Lm_gain_84 : decode M_Lm_gain.2.1 84 = .ok (.iload_n 1, 1) := by decide +kernel
theorem d_Lm_gain_85 : decode M_Lm_gain.2.1 85 = .ok (.invokevirtual 124, 3) := by decide +kernel
theorem d_Lm_gain_88 : decode M_Lm_gain.2.1 88 = .ok (.ifCond .eq 7, 3) := by decide +kernel
theorem d_Lm_gain_91 : decode M_Lm_gain.2.1 91 = .ok (.iconst 3, 1) := by decide +kernel
theorem d_Lm_gain_92 : decode M_Lm_gain.2.1 92 = .ok (.goto 4, 3) := by decide +kernel
theorem d_Lm_gain_95 : decode M_Lm_gain.2.1 95 = .ok (.iconst 0, 1) := by decide +kernel
theorem d_Lm_gain_96 : decode M_Lm_gain.2.1 96 = .ok (.ireturn, 1) := by decide +kernel
theorem d_Lm_passWeekOnTrial_0 : decode M_Lm_passWeekOnTrial.2.1 0 = .ok (.iload_n 1, 1) := by decide +kernel
theorem d_Lm_passWeekOnTrial_1 : decode M_Lm_passWeekOnTrial.2.1 1 = .ok (.iconst 5, 1) := by decide +kernel
theorem d_Lm_passWeekOnTrial_2 : decode M_Lm_passWeekOnTrial.2.1 2 = .ok (.if_icmp .ge 16, 3) := by decide +kernel
theorem d_Lm_passWeekOnTrial_5 : decode M_Lm_passWeekOnTrial.2.1 5 = .ok (.aload_n 0, 1) := by decide +kernel
theorem d_Lm_passWeekOnTrial_6 : decode M_Lm_passWeekOnTrial.2.1 6 = .ok (.getfield 24, 3) := by decide +kernel
theorem d_Lm_passWeekOnTrial_9 : decode M_Lm_passWeekOnTrial.2.1 9 = .ok (.iload_n 1, 1) := by decide +kernel
theorem d_Lm_passWeekOnTrial_10 : decode M_Lm_passWeekOnTrial.2.1 10 = .ok (.iconst 1, 1) := by decide +kernel
theorem d_Lm_passWeekOnTrial_11 : decode M_Lm_passWeekOnTrial.2.1 11 = .ok (.invokevirtual 246, 3) := by decide +kernel
theorem d_Lm_passWeekOnTrial_14 : decode M_Lm_passWeekOnTrial.2.1 14 = .ok (.pop, 1) := by decide +kernel
theorem d_Lm_passWeekOnTrial_15 : decode M_Lm_passWeekOnTrial.2.1 15 = .ok (.goto 52, 3) := by decide +kernel
theorem d_Lm_passWeekOnTrial_18 : decode M_Lm_passWeekOnTrial.2.1 18 = .ok (.iload_n 1, 1) := by decide +kernel
theorem d_Lm_passWeekOnTrial_19 : decode M_Lm_passWeekOnTrial.2.1 19 = .ok (.bipush 10, 2) := by decide +kernel
theorem d_Lm_passWeekOnTrial_21 : decode M_Lm_passWeekOnTrial.2.1 21 = .ok (.if_icmp .ge 18, 3) := by decide +kernel
theorem d_Lm_passWeekOnTrial_24 : decode M_Lm_passWeekOnTrial.2.1 24 = .ok (.aload_n 0, 1) := by decide +kernel
theorem d_Lm_passWeekOnTrial_25 : decode M_Lm_passWeekOnTrial.2.1 25 = .ok (.getfield 24, 3) := by decide +kernel
theorem d_Lm_passWeekOnTrial_28 : decode M_Lm_passWeekOnTrial.2.1 28 = .ok (.iload_n 1, 1) := by decide +kernel
theorem d_Lm_passWeekOnTrial_29 : decode M_Lm_passWeekOnTrial.2.1 29 = .ok (.iconst 5, 1) := by decide +kernel
theorem d_Lm_passWeekOnTrial_30 : decode M_Lm_passWeekOnTrial.2.1 30 = .ok (.isub, 1) := by decide +kernel
theorem d_Lm_passWeekOnTrial_31 : decode M_Lm_passWeekOnTrial.2.1 31 = .ok (.iconst (-1), 1) := by decide +kernel
theorem d_Lm_passWeekOnTrial_32 : decode M_Lm_passWeekOnTrial.2.1 32 = .ok (.invokevirtual 246, 3) := by decide +kernel
theorem d_Lm_passWeekOnTrial_35 : decode M_Lm_passWeekOnTrial.2.1 35 = .ok (.pop, 1) := by decide +kernel
theorem d_Lm_passWeekOnTrial_36 : decode M_Lm_passWeekOnTrial.2.1 36 = .ok (.goto 31, 3) := by decide +kernel
theorem d_Lm_passWeekOnTrial_39 : decode M_Lm_passWeekOnTrial.2.1 39 = .ok (.iload_n 1, 1) := by decide +kernel
theorem d_Lm_passWeekOnTrial_40 : decode M_Lm_passWeekOnTrial.2.1 40 = .ok (.bipush 13, 2) := by decide +kernel
theorem d_Lm_passWeekOnTrial_42 : decode M_Lm_passWeekOnTrial.2.1 42 = .ok (.if_icmp .ge 17, 3) := by decide +kernel
theorem d_Lm_passWeekOnTrial_45 : decode M_Lm_passWeekOnTrial.2.1 45 = .ok (.aload_n 0, 1) := by decide +kernel
theorem d_Lm_passWeekOnTrial_46 : decode M_Lm_passWeekOnTrial.2.1 46 = .ok (.getfield 24, 3) := by decide +kernel
theorem d_Lm_passWeekOnTrial_49 : decode M_Lm_passWeekOnTrial.2.1 49 = .ok (.iload_n 1, 1) := by decide +kernel
theorem d_Lm_passWeekOnTrial_50 : decode M_Lm_passWeekOnTrial.2.1 50 = .ok (.bipush 10, 2) := by decide +kernel
theorem d_Lm_passWeekOnTrial_52 : decode M_Lm_passWeekOnTrial.2.1 52 = .ok (.isub, 1) := by decide +kernel
theorem d_Lm_passWeekOnTrial_53 : decode M_Lm_passWeekOnTrial.2.1 53 = .ok (.putfield 82, 3) := by decide +kernel
theorem d_Lm_passWeekOnTrial_56 : decode M_Lm_passWeekOnTrial.2.1 56 = .ok (.goto 11, 3) := by decide +kernel
theorem d_Lm_passWeekOnTrial_59 : decode M_Lm_passWeekOnTrial.2.1 59 = .ok (.aload_n 0, 1) := by decide +kernel
theorem d_Lm_passWeekOnTrial_60 : decode M_Lm_passWeekOnTrial.2.1 60 = .ok (.getfield 24, 3) := by decide +kernel
theorem d_Lm_passWeekOnTrial_63 : decode M_Lm_passWeekOnTrial.2.1 63 = .ok (.invokevirtual 158, 3) := by decide +kernel
theorem d_Lm_passWeekOnTrial_66 : decode M_Lm_passWeekOnTrial.2.1 66 = .ok (.pop, 1) := by decide +kernel
theorem d_Lm_passWeekOnTrial_67 : decode M_Lm_passWeekOnTrial.2.1 67 = .ok (.return_, 1) := by decide +kernel
theorem d_Lm_power_0 : decode M_Lm_power.2.1 0 = .ok (.iconst 1, 1) := by decide +kernel
theorem d_Lm_power_1 : decode M_Lm_power.2.1 1 = .ok (.istore_n 2, 1) := by decide +kernel
theorem d_Lm_power_2 : decode M_Lm_power.2.1 2 = .ok (.iconst 0, 1) := by decide +kernel
theorem d_Lm_power_3 : decode M_Lm_power.2.1 3 = .ok (.istore_n 3, 1) := by decide +kernel
theorem d_Lm_power_4 : decode M_Lm_power.2.1 4 = .ok (.iload_n 3, 1) := by decide +kernel
theorem d_Lm_power_5 : decode M_Lm_power.2.1 5 = .ok (.iload_n 1, 1) := by decide +kernel
theorem d_Lm_power_6 : decode M_Lm_power.2.1 6 = .ok (.if_icmp .ge 13, 3) := by decide +kernel
theorem d_Lm_power_9 : decode M_Lm_power.2.1 9 = .ok (.iload_n 2, 1) := by decide +kernel
theorem d_Lm_power_10 : decode M_Lm_power.2.1 10 = .ok (.iload_n 0, 1) := by decide +kernel
theorem d_Lm_power_11 : decode M_Lm_power.2.1 11 = .ok (.imul, 1) := by decide +kernel
theorem d_Lm_power_12 : decode M_Lm_power.2.1 12 = .ok (.istore_n 2, 1) := by decide +kernel
theorem d_Lm_power_13 : decode M_Lm_power.2.1 13 = .ok (.iinc 3 1, 3) := by decide +kernel
theorem d_Lm_power_16 : decode M_Lm_power.2.1 16 = .ok (.goto (-12), 3) := by decide +kernel
theorem d_Lm_power_19 : decode M_Lm_power.2.1 19 = .ok (.iload_n 2, 1) := by decide +kernel
theorem d_Lm_power_20 : decode M_Lm_power.2.1 20 = .ok (.ireturn, 1) := by decide +kernel
theorem d_Lm_factorial_0 : decode M_Lm_factorial.2.1 0 = .ok (.iconst 1, 1) := by decide +kernel
theorem d_Lm_factorial_1 : decode M_Lm_factorial.2.1 1 = .ok (.istore_n 1, 1) := by decide +kernel
theorem d_Lm_factorial_2 : decode M_Lm_factorial.2.1 2 = .ok (.iconst 2, 1) := by decide +kernel
theorem d_Lm_factorial_3 : decode M_Lm_factorial.2.1 3 = .ok (.istore_n 2, 1) := by decide +kernel
theorem d_Lm_factorial_4 : decode M_Lm_factorial.2.1 4 = .ok (.iload_n 2, 1) := by decide +kernel
theorem d_Lm_factorial_5 : decode M_Lm_factorial.2.1 5 = .ok (.iload_n 0, 1) := by decide +kernel
theorem d_Lm_factorial_6 : decode M_Lm_factorial.2.1 6 = .ok (.if_icmp .gt 13, 3) := by decide +kernel
theorem d_Lm_factorial_9 : decode M_Lm_factorial.2.1 9 = .ok (.iload_n 1, 1) := by decide +kernel
theorem d_Lm_factorial_10 : decode M_Lm_factorial.2.1 10 = .ok (.iload_n 2, 1) := by decide +kernel
theorem d_Lm_factorial_11 : decode M_Lm_factorial.2.1 11 = .ok (.imul, 1) := by decide +kernel
theorem d_Lm_factorial_12 : decode M_Lm_factorial.2.1 12 = .ok (.istore_n 1, 1) := by decide +kernel
theorem d_Lm_factorial_13 : decode M_Lm_factorial.2.1 13 = .ok (.iinc 2 1, 3) := by decide +kernel
theorem d_Lm_factorial_16 : decode M_Lm_factorial.2.1 16 = .ok (.goto (-12), 3) := by decide +kernel
theorem d_Lm_factorial_19 : decode M_Lm_factorial.2.1 19 = .ok (.iload_n 1, 1) := by decide +kernel
theorem d_Lm_factorial_20 : decode M_Lm_factorial.2.1 20 = .ok (.ireturn, 1) := by decide +kernel
theorem d_Lm_told_0 : decode M_Lm_told.2.1 0 = .ok (.iload_n 0, 1) := by decide +kernel
theorem d_Lm_told_1 : decode M_Lm_told.2.1 1 = .ok (.invokestatic 258, 3) := by decide +kernel
theorem d_Lm_told_4 : decode M_Lm_told.2.1 4 = .ok (.iload_n 1, 1) := by decide +kernel
theorem d_Lm_told_5 : decode M_Lm_told.2.1 5 = .ok (.invokestatic 258, 3) := by decide +kernel
theorem d_Lm_told_8 : decode M_Lm_told.2.1 8 = .ok (.invokestatic 263, 3) := by decide +kernel
theorem d_Lm_told_11 : decode M_Lm_told.2.1 11 = .ok (.istore_n 3, 1) := by decide +kernel
theorem d_Lm_told_12 : decode M_Lm_told.2.1 12 = .ok (.iload_n 3, 1) := by decide +kernel
theorem d_Lm_told_13 : decode M_Lm_told.2.1 13 = .ok (.iconst 1, 1) := by decide +kernel
theorem d_Lm_told_14 : decode M_Lm_told.2.1 14 = .ok (.if_icmp .ge 13, 3) := by decide +kernel
theorem d_Lm_told_17 : decode M_Lm_told.2.1 17 = .ok (.iload_n 2, 1) := by decide +kernel
theorem d_Lm_told_18 : decode M_Lm_told.2.1 18 = .ok (.ifCond .eq 7, 3) := by decide +kernel
theorem d_Lm_told_21 : decode M_Lm_told.2.1 21 = .ok (.iload_n 0, 1) := by decide +kernel
theorem d_Lm_told_22 : decode M_Lm_told.2.1 22 = .ok (.goto 4, 3) := by decide +kernel
theorem d_Lm_told_25 : decode M_Lm_told.2.1 25 = .ok (.iload_n 1, 1) := by decide +kernel
theorem d_Lm_told_26 : decode M_Lm_told.2.1 26 = .ok (.ireturn, 1) := by decide +kernel
theorem d_Lm_told_27 : decode M_Lm_told.2.1 27 = .ok (.iload_n 2, 1) := by decide +kernel
theorem d_Lm_told_28 : decode M_Lm_told.2.1 28 = .ok (.ifCond .eq 9, 3) := by decide +kernel
theorem d_Lm_told_31 : decode M_Lm_told.2.1 31 = .ok (.iload_n 0, 1) := by decide +kernel
theorem d_Lm_told_32 : decode M_Lm_told.2.1 32 = .ok (.iload_n 3, 1) := by decide +kernel
theorem d_Lm_told_33 : decode M_Lm_told.2.1 33 = .ok (.idiv, 1) := by decide +kernel
theorem d_Lm_told_34 : decode M_Lm_told.2.1 34 = .ok (.goto 6, 3) := by decide +kernel
theorem d_Lm_told_37 : decode M_Lm_told.2.1 37 = .ok (.iload_n 1, 1) := by decide +kernel
theorem d_Lm_told_38 : decode M_Lm_told.2.1 38 = .ok (.iload_n 3, 1) := by decide +kernel
theorem d_Lm_told_39 : decode M_Lm_told.2.1 39 = .ok (.idiv, 1) := by decide +kernel
theorem d_Lm_told_40 : decode M_Lm_told.2.1 40 = .ok (.ireturn, 1) := by decide +kernel
theorem d_Lm_commonDivisor_0 : decode M_Lm_commonDivisor.2.1 0 = .ok (.iload_n 0, 1) := by decide +kernel
theorem d_Lm_commonDivisor_1 : decode M_Lm_commonDivisor.2.1 1 = .ok (.istore_n 2, 1) := by decide +kernel
theorem d_Lm_commonDivisor_2 : decode M_Lm_commonDivisor.2.1 2 = .ok (.iload_n 1, 1) := by decide +kernel
theorem d_Lm_commonDivisor_3 : decode M_Lm_commonDivisor.2.1 3 = .ok (.istore_n 3, 1) := by decide +kernel
theorem d_Lm_commonDivisor_4 : decode M_Lm_commonDivisor.2.1 4 = .ok (.iconst 0, 1) := by decide +kernel
theorem d_Lm_commonDivisor_5 : decode M_Lm_commonDivisor.2.1 5 = .ok (.istore 4, 2) := by decide +kernel
theorem d_Lm_commonDivisor_7 : decode M_Lm_commonDivisor.2.1 7 = .ok (.iload 4, 2) := by decide +kernel
theorem d_Lm_commonDivisor_9 : decode M_Lm_commonDivisor.2.1 9 = .ok (.bipush 64, 2) := by decide +kernel
theorem d_Lm_commonDivisor_11 : decode M_Lm_commonDivisor.2.1 11 = .ok (.if_icmp .ge 23, 3) := by decide +kernel
theorem d_Lm_commonDivisor_14 : decode M_Lm_commonDivisor.2.1 14 = .ok (.iload_n 3, 1) := by decide +kernel
theorem d_Lm_commonDivisor_15 : decode M_Lm_commonDivisor.2.1 15 = .ok (.ifCond .eq 19, 3) := by decide +kernel
theorem d_Lm_commonDivisor_18 : decode M_Lm_commonDivisor.2.1 18 = .ok (.iload_n 2, 1) := by decide +kernel
theorem d_Lm_commonDivisor_19 : decode M_Lm_commonDivisor.2.1 19 = .ok (.iload_n 3, 1) := by decide +kernel
theorem d_Lm_commonDivisor_20 : decode M_Lm_commonDivisor.2.1 20 = .ok (.irem, 1) := by decide +kernel
theorem d_Lm_commonDivisor_21 : decode M_Lm_commonDivisor.2.1 21 = .ok (.istore 5, 2) := by decide +kernel
theorem d_Lm_commonDivisor_23 : decode M_Lm_commonDivisor.2.1 23 = .ok (.iload_n 3, 1) := by decide +kernel
theorem d_Lm_commonDivisor_24 : decode M_Lm_commonDivisor.2.1 24 = .ok (.istore_n 2, 1) := by decide +kernel
theorem d_Lm_commonDivisor_25 : decode M_Lm_commonDivisor.2.1 25 = .ok (.iload 5, 2) := by decide +kernel
theorem d_Lm_commonDivisor_27 : decode M_Lm_commonDivisor.2.1 27 = .ok (.istore_n 3, 1) := by decide +kernel
theorem d_Lm_commonDivisor_28 : decode M_Lm_commonDivisor.2.1 28 = .ok (.iinc 4 1, 3) := by decide +kernel
theorem d_Lm_commonDivisor_31 : decode M_Lm_commonDivisor.2.1 31 = .ok (.goto (-24), 3) := by decide +kernel
theorem d_Lm_commonDivisor_34 : decode M_Lm_commonDivisor.2.1 34 = .ok (.iload_n 2, 1) := by decide +kernel
theorem d_Lm_commonDivisor_35 : decode M_Lm_commonDivisor.2.1 35 = .ok (.ireturn, 1) := by decide +kernel
