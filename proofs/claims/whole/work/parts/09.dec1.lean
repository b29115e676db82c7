theorem d_Ln_init_0 : decode M_Ln_init.2.1 0 = .ok (.aload_n 0, 1) := by decide +kernel
theorem d_Ln_init_1 : decode M_Ln_init.2.1 1 = .ok (.invokespecial 3, 3) := by decide +kernel
theorem d_Ln_init_4 : decode M_Ln_init.2.1 4 = .ok (.aload_n 0, 1) := by decide +kernel
theorem d_Ln_init_5 : decode M_Ln_init.2.1 5 = .ok (.iconst 5, 1) := by decide +kernel
theorem d_Ln_init_6 : decode M_Ln_init.2.1 6 = .ok (.newarray .int, 2) := by decide +kernel
theorem d_Ln_init_8 : decode M_Ln_init.2.1 8 = .ok (.putfield 9, 3) := by decide +kernel
theorem d_Ln_init_11 : decode M_Ln_init.2.1 11 = .ok (.aload_n 0, 1) := by decide +kernel
theorem d_Ln_init_12 : decode M_Ln_init.2.1 12 = .ok (.iconst 5, 1) := by decide +kernel
theorem d_Ln_init_13 : decode M_Ln_init.2.1 13 = .ok (.newarray .int, 2) := by decide +kernel
theorem d_Ln_init_15 : decode M_Ln_init.2.1 15 = .ok (.putfield 15, 3) := by decide +kernel
theorem d_Ln_init_18 : decode M_Ln_init.2.1 18 = .ok (.aload_n 0, 1) := by decide +kernel
theorem d_Ln_init_19 : decode M_Ln_init.2.1 19 = .ok (.iconst 5, 1) := by decide +kernel
theorem d_Ln_init_20 : decode M_Ln_init.2.1 20 = .ok (.newarray .int, 2) := by decide +kernel
theorem d_Ln_init_22 : decode M_Ln_init.2.1 22 = .ok (.putfield 18, 3) := by decide +kernel
theorem d_Ln_init_25 : decode M_Ln_init.2.1 25 = .ok (.aload_n 0, 1) := by decide +kernel
theorem d_Ln_init_26 : decode M_Ln_init.2.1 26 = .ok (.iconst 5, 1) := by decide +kernel
theorem d_Ln_init_27 : decode M_Ln_init.2.1 27 = .ok (.newarray .int, 2) := by decide +kernel
theorem d_Ln_init_29 : decode M_Ln_init.2.1 29 = .ok (.putfield 21, 3) := by decide +kernel
theorem d_Ln_init_32 : decode M_Ln_init.2.1 32 = .ok (.aload_n 0, 1) := by decide +kernel
theorem d_Ln_init_33 : decode M_Ln_init.2.1 33 = .ok (.bipush 6, 2) := by decide +kernel
theorem d_Ln_init_35 : decode M_Ln_init.2.1 35 = .ok (.newarray .int, 2) := by decide +kernel
theorem d_Ln_init_37 : decode M_Ln_init.2.1 37 = .ok (.putfield 24, 3) := by decide +kernel
theorem d_Ln_init_40 : decode M_Ln_init.2.1 40 = .ok (.aload_n 0, 1) := by decide +kernel
theorem d_Ln_init_41 : decode M_Ln_init.2.1 41 = .ok (.bipush 6, 2) := by decide +kernel
theorem d_Ln_init_43 : decode M_Ln_init.2.1 43 = .ok (.newarray .int, 2) := by decide +kernel
theorem d_Ln_init_45 : decode M_Ln_init.2.1 45 = .ok (.putfield 27, 3) := by decide +kernel
theorem d_Ln_init_48 : decode M_Ln_init.2.1 48 = .ok (.aload_n 0, 1) := by decide +kernel
theorem d_Ln_init_49 : decode M_Ln_init.2.1 49 = .ok (.iconst 0, 1) := by decide +kernel
theorem d_Ln_init_50 : decode M_Ln_init.2.1 50 = .ok (.putfield 30, 3) := by decide +kernel
theorem d_Ln_init_53 : decode M_Ln_init.2.1 53 = .ok (.aload_n 0, 1) := by decide +kernel
theorem d_Ln_init_54 : decode M_Ln_init.2.1 54 = .ok (.iconst 0, 1) := by decide +kernel
theorem d_Ln_init_55 : decode M_Ln_init.2.1 55 = .ok (.putfield 34, 3) := by decide +kernel
theorem d_Ln_init_58 : decode M_Ln_init.2.1 58 = .ok (.aload_n 0, 1) := by decide +kernel
theorem d_Ln_init_59 : decode M_Ln_init.2.1 59 = .ok (.iconst 1, 1) := by decide +kernel
theorem d_Ln_init_60 : decode M_Ln_init.2.1 60 = .ok (.putfield 37, 3) := by decide +kernel
theorem d_Ln_init_63 : decode M_Ln_init.2.1 63 = .ok (.aload_n 0, 1) := by decide +kernel
theorem d_Ln_init_64 : decode M_Ln_init.2.1 64 = .ok (.bipush 9, 2) := by decide +kernel
theorem d_Ln_init_66 : decode M_Ln_init.2.1 66 = .ok (.putfield 40, 3) := by decide +kernel
theorem d_Ln_init_69 : decode M_Ln_init.2.1 69 = .ok (.aload_n 0, 1) := by decide +kernel
theorem d_Ln_init_70 : decode M_Ln_init.2.1 70 = .ok (.iconst 0, 1) := by decide +kernel
theorem d_Ln_init_71 : decode M_Ln_init.2.1 71 = .ok (.putfield 43, 3) := by decide +kernel
theorem d_Ln_init_74 : decode M_Ln_init.2.1 74 = .ok (.aload_n 0, 1) := by decide +kernel
theorem d_Ln_init_75 : decode M_Ln_init.2.1 75 = .ok (.iconst 5, 1) := by decide +kernel
theorem d_Ln_init_76 : decode M_Ln_init.2.1 76 = .ok (.newarray .int, 2) := by decide +kernel
theorem d_Ln_init_78 : decode M_Ln_init.2.1 78 = .ok (.putfield 46, 3) := by decide +kernel
theorem d_Ln_init_81 : decode M_Ln_init.2.1 81 = .ok (.return_, 1) := by decide +kernel
theorem d_Ln_clear_0 : decode M_Ln_clear.2.1 0 = .ok (.aload_n 0, 1) := by decide +kernel
theorem d_Ln_clear_1 : decode M_Ln_clear.2.1 1 = .ok (.iconst 0, 1) := by decide +kernel
theorem d_Ln_clear_2 : decode M_Ln_clear.2.1 2 = .ok (.putfield 30, 3) := by decide +kernel
theorem d_Ln_clear_5 : decode M_Ln_clear.2.1 5 = .ok (.aload_n 0, 1) := by decide +kernel
theorem d_Ln_clear_6 : decode M_Ln_clear.2.1 6 = .ok (.iconst 0, 1) := by decide +kernel
theorem d_Ln_clear_7 : decode M_Ln_clear.2.1 7 = .ok (.putfield 34, 3) := by decide +kernel
theorem d_Ln_clear_10 : decode M_Ln_clear.2.1 10 = .ok (.aload_n 0, 1) := by decide +kernel
theorem d_Ln_clear_11 : decode M_Ln_clear.2.1 11 = .ok (.iconst 1, 1) := by decide +kernel
theorem d_Ln_clear_12 : decode M_Ln_clear.2.1 12 = .ok (.putfield 37, 3) := by decide +kernel
theorem d_Ln_clear_15 : decode M_Ln_clear.2.1 15 = .ok (.aload_n 0, 1) := by decide +kernel
theorem d_Ln_clear_16 : decode M_Ln_clear.2.1 16 = .ok (.bipush 9, 2) := by decide +kernel
theorem d_Ln_clear_18 : decode M_Ln_clear.2.1 18 = .ok (.putfield 40, 3) := by decide +kernel
theorem d_Ln_clear_21 : decode M_Ln_clear.2.1 21 = .ok (.aload_n 0, 1) := by decide +kernel
theorem d_Ln_clear_22 : decode M_Ln_clear.2.1 22 = .ok (.iconst 0, 1) := by decide +kernel
theorem d_Ln_clear_23 : decode M_Ln_clear.2.1 23 = .ok (.putfield 43, 3) := by decide +kernel
theorem d_Ln_clear_26 : decode M_Ln_clear.2.1 26 = .ok (.return_, 1) := by decide +kernel
theorem d_Ln_addWindow_0 : decode M_Ln_addWindow.2.1 0 = .ok (.aload_n 0, 1) := by decide +kernel
theorem d_Ln_addWindow_1 : decode M_Ln_addWindow.2.1 1 = .ok (.getfield 30, 3) := by decide +kernel
theorem d_Ln_addWindow_4 : decode M_Ln_addWindow.2.1 4 = .ok (.ifCond .lt 11, 3) := by decide +kernel
theorem d_Ln_addWindow_7 : decode M_Ln_addWindow.2.1 7 = .ok (.aload_n 0, 1) := by decide +kernel
theorem d_Ln_addWindow_8 : decode M_Ln_addWindow.2.1 8 = .ok (.getfield 30, 3) := by decide +kernel
theorem d_Ln_addWindow_11 : decode M_Ln_addWindow.2.1 11 = .ok (.iconst 5, 1) := by decide +kernel
theorem d_Ln_addWindow_12 : decode M_Ln_addWindow.2.1 12 = .ok (.if_icmp .lt 5, 3) := by decide +kernel
theorem d_Ln_addWindow_15 : decode M_Ln_addWindow.2.1 15 = .ok (.iconst 0, 1) := by decide +kernel
theorem d_Ln_addWindow_16 : decode M_Ln_addWindow.2.1 16 = .ok (.ireturn, 1) := by decide +kernel
theorem d_Ln_addWindow_17 : decode M_Ln_addWindow.2.1 17 = .ok (.aload_n 0, 1) := by decide +kernel
theorem d_Ln_addWindow_18 : decode M_Ln_addWindow.2.1 18 = .ok (.getfield 9, 3) := by decide +kernel
theorem d_Ln_addWindow_21 : decode M_Ln_addWindow.2.1 21 = .ok (.aload_n 0, 1) := by decide +kernel
theorem d_Ln_addWindow_22 : decode M_Ln_addWindow.2.1 22 = .ok (.getfield 30, 3) := by decide +kernel
theorem d_Ln_addWindow_25 : decode M_Ln_addWindow.2.1 25 = .ok (.iload_n 1, 1) := by decide +kernel
theorem d_Ln_addWindow_26 : decode M_Ln_addWindow.2.1 26 = .ok (.iastore, 1) := by decide +kernel
theorem d_Ln_addWindow_27 : decode M_Ln_addWindow.2.1 27 = .ok (.aload_n 0, 1) := by decide +kernel
theorem d_Ln_addWindow_28 : decode M_Ln_addWindow.2.1 28 = .ok (.getfield 15, 3) := by decide +kernel
theorem d_Ln_addWindow_31 : decode M_Ln_addWindow.2.1 31 = .ok (.aload_n 0, 1) := by decide +kernel
theorem d_Ln_addWindow_32 : decode M_Ln_addWindow.2.1 32 = .ok (.getfield 30, 3) := by decide +kernel
theorem d_Ln_addWindow_35 : decode M_Ln_addWindow.2.1 35 = .ok (.iload_n 2, 1) := by decide +kernel
theorem d_Ln_addWindow_36 : decode M_Ln_addWindow.2.1 36 = .ok (.iastore, 1) := by decide +kernel
theorem d_Ln_addWindow_37 : decode M_Ln_addWindow.2.1 37 = .ok (.aload_n 0, 1) := by decide +kernel
theorem d_Ln_addWindow_38 : decode M_Ln_addWindow.2.1 38 = .ok (.getfield 18, 3) := by decide +kernel
theorem d_Ln_addWindow_41 : decode M_Ln_addWindow.2.1 41 = .ok (.aload_n 0, 1) := by decide +kernel
theorem d_Ln_addWindow_42 : decode M_Ln_addWindow.2.1 42 = .ok (.getfield 30, 3) := by decide +kernel
theorem d_Ln_addWindow_45 : decode M_Ln_addWindow.2.1 45 = .ok (.iload_n 3, 1) := by decide +kernel
theorem d_Ln_addWindow_46 : decode M_Ln_addWindow.2.1 46 = .ok (.iastore, 1) := by decide +kernel
theorem d_Ln_addWindow_47 : decode M_Ln_addWindow.2.1 47 = .ok (.aload_n 0, 1) := by decide +kernel
theorem d_Ln_addWindow_48 : decode M_Ln_addWindow.2.1 48 = .ok (.getfield 21, 3) := by decide +kernel
theorem d_Ln_addWindow_51 : decode M_Ln_addWindow.2.1 51 = .ok (.aload_n 0, 1) := by decide +kernel
theorem d_Ln_addWindow_52 : decode M_Ln_addWindow.2.1 52 = .ok (.getfield 30, 3) := by decide +kernel
theorem d_Ln_addWindow_55 : decode M_Ln_addWindow.2.1 55 = .ok (.iconst 0, 1) := by decide +kernel
theorem d_Ln_addWindow_56 : decode M_Ln_addWindow.2.1 56 = .ok (.iastore, 1) := by decide +kernel
theorem d_Ln_addWindow_57 : decode M_Ln_addWindow.2.1 57 = .ok (.aload_n 0, 1) := by decide +kernel
theorem d_Ln_addWindow_58 : decode M_Ln_addWindow.2.1 58 = .ok (.dup, 1) := by decide +kernel
theorem d_Ln_addWindow_59 : decode M_Ln_addWindow.2.1 59 = .ok (.getfield 30, 3) := by decide +kernel
theorem d_Ln_addWindow_62 : decode M_Ln_addWindow.2.1 62 = .ok (.iconst 1, 1) := by decide +kernel
theorem d_Ln_addWindow_63 : decode M_Ln_addWindow.2.1 63 = .ok (.iadd, 1) := by decide +kernel
theorem d_Ln_addWindow_64 : decode M_Ln_addWindow.2.1 64 = .ok (.putfield 30, 3) := by decide +kernel
theorem d_Ln_addWindow_67 : decode M_Ln_addWindow.2.1 67 = .ok (.iconst 1, 1) := by decide +kernel
theorem d_Ln_addWindow_68 : decode M_Ln_addWindow.2.1 68 = .ok (.ireturn, 1) := by decide +kernel
theorem d_Ln_addMoth_0 : decode M_Ln_addMoth.2.1 0 = .ok (.aload_n 0, 1) := by decide +kernel
theorem d_Ln_addMoth_1 : decode M_Ln_addMoth.2.1 1 = .ok (.getfield 34, 3) := by decide +kernel
theorem d_Ln_addMoth_4 : decode M_Ln_addMoth.2.1 4 = .ok (.ifCond .lt 12, 3) := by decide +kernel
theorem d_Ln_addMoth_7 : decode M_Ln_addMoth.2.1 7 = .ok (.aload_n 0, 1) := by decide +kernel
theorem d_Ln_addMoth_8 : decode M_Ln_addMoth.2.1 8 = .ok (.getfield 34, 3) := by decide +kernel
theorem d_Ln_addMoth_11 : decode M_Ln_addMoth.2.1 11 = .ok (.bipush 6, 2) := by decide +kernel
theorem d_Ln_addMoth_13 : decode M_Ln_addMoth.2.1 13 = .ok (.if_icmp .lt 5, 3) := by decide +kernel
theorem d_Ln_addMoth_16 : decode M_Ln_addMoth.2.1 16 = .ok (.iconst 0, 1) := by decide +kernel
theorem d_Ln_addMoth_17 : decode M_Ln_addMoth.2.1 17 = .ok (.ireturn, 1) := by decide +kernel
theorem d_Ln_addMoth_18 : decode M_Ln_addMoth.2.1 18 = .ok (.aload_n 0, 1) := by decide +kernel
theorem d_Ln_addMoth_19 : decode M_Ln_addMoth.2.1 19 = .ok (.getfield 24, 3) := by decide +kernel
theorem d_Ln_addMoth_22 : decode M_Ln_addMoth.2.1 22 = .ok (.aload_n 0, 1) := by decide +kernel
theorem d_Ln_addMoth_23 : decode M_Ln_addMoth.2.1 23 = .ok (.getfield 34, 3) := by decide +kernel
theorem d_Ln_addMoth_26 : decode M_Ln_addMoth.2.1 26 = .ok (.iload_n 1, 1) := by decide +kernel
theorem d_Ln_addMoth_27 : decode M_Ln_addMoth.2.1 27 = .ok (.iastore, 1) := by decide +kernel
theorem d_Ln_addMoth_28 : decode M_Ln_addMoth.2.1 28 = .ok (.aload_n 0, 1) := by decide +kernel
theorem d_Ln_addMoth_29 : decode M_Ln_addMoth.2.1 29 = .ok (.getfield 27, 3) := by decide +kernel
theorem d_Ln_addMoth_32 : decode M_Ln_addMoth.2.1 32 = .ok (.aload_n 0, 1) := by decide +kernel
theorem d_Ln_addMoth_33 : decode M_Ln_addMoth.2.1 33 = .ok (.getfield 34, 3) := by decide +kernel
theorem d_Ln_addMoth_36 : decode M_Ln_addMoth.2.1 36 = .ok (.iload_n 2, 1) := by decide +kernel
theorem d_Ln_addMoth_37 : decode M_Ln_addMoth.2.1 37 = .ok (.iastore, 1) := by decide +kernel
theorem d_Ln_addMoth_38 : decode M_Ln_addMoth.2.1 38 = .ok (.aload_n 0, 1) := by decide +kernel
theorem d_Ln_addMoth_39 : decode M_Ln_addMoth.2.1 39 = .ok (.dup, 1) := by decide +kernel
theorem d_Ln_addMoth_40 : decode M_Ln_addMoth.2.1 40 = .ok (.getfield 34, 3) := by decide +kernel
theorem d_Ln_addMoth_43 : decode M_Ln_addMoth.2.1 43 = .ok (.iconst 1, 1) := by decide +kernel
theorem d_Ln_addMoth_44 : decode M_Ln_addMoth.2.1 44 = .ok (.iadd, 1) := by decide +kernel
theorem d_Ln_addMoth_45 : decode M_Ln_addMoth.2.1 45 = .ok (.putfield 34, 3) := by decide +kernel
theorem d_Ln_addMoth_48 : decode M_Ln_addMoth.2.1 48 = .ok (.iconst 1, 1) := by decide +kernel
theorem d_Ln_addMoth_49 : decode M_Ln_addMoth.2.1 49 = .ok (.ireturn, 1) := by decide +kernel
theorem d_Ln_copyFrom_0 : decode M_Ln_copyFrom.2.1 0 = .ok (.aload_n 0, 1) := by decide +kernel
theorem d_Ln_copyFrom_1 : decode M_Ln_copyFrom.2.1 1 = .ok (.aload_n 1, 1) := by decide +kernel
theorem d_Ln_copyFrom_2 : decode M_Ln_copyFrom.2.1 2 = .ok (.getfield 30, 3) := by decide +kernel
theorem d_Ln_copyFrom_5 : decode M_Ln_copyFrom.2.1 5 = .ok (.putfield 30, 3) := by decide +kernel
theorem d_Ln_copyFrom_8 : decode M_Ln_copyFrom.2.1 8 = .ok (.aload_n 0, 1) := by decide +kernel
theorem d_Ln_copyFrom_9 : decode M_Ln_copyFrom.2.1 9 = .ok (.aload_n 1, 1) := by decide +kernel
theorem d_Ln_copyFrom_10 : decode M_Ln_copyFrom.2.1 10 = .ok (.getfield 34, 3) := by decide +kernel
theorem d_Ln_copyFrom_13 : decode M_Ln_copyFrom.2.1 13 = .ok (.putfield 34, 3) := by decide +kernel
theorem d_Ln_copyFrom_16 : decode M_Ln_copyFrom.2.1 16 = .ok (.aload_n 0, 1) := by decide +kernel
theorem d_Ln_copyFrom_17 : decode M_Ln_copyFrom.2.1 17 = .ok (.aload_n 1, 1) := by decide +kernel
theorem d_Ln_copyFrom_18 : decode M_Ln_copyFrom.2.1 18 = .ok (.getfield 37, 3) := by decide +kernel
theorem d_Ln_copyFrom_21 : decode M_Ln_copyFrom.2.1 21 = .ok (.putfield 37, 3) := by decide +kernel
theorem d_Ln_copyFrom_24 : decode M_Ln_copyFrom.2.1 24 = .ok (.aload_n 0, 1) := by decide +kernel
theorem d_Ln_copyFrom_25 : decode M_Ln_copyFrom.2.1 25 = .ok (.aload_n 1, 1) := by decide +kernel
theorem d_Ln_copyFrom_26 : decode M_Ln_copyFrom.2.1 26 = .ok (.getfield 40, 3) := by decide +kernel
theorem d_Ln_copyFrom_29 : decode M_Ln_copyFrom.2.1 29 = .ok (.putfield 40, 3) := by decide +kernel
theorem d_Ln_copyFrom_32 : decode M_Ln_copyFrom.2.1 32 = .ok (.aload_n 0, 1) := by decide +kernel
theorem d_Ln_copyFrom_33 : decode M_Ln_copyFrom.2.1 33 = .ok (.aload_n 1, 1) := by decide +kernel
theorem d_Ln_copyFrom_34 : decode M_Ln_copyFrom.2.1 34 = .ok (.getfield 43, 3) := by decide +kernel
theorem d_Ln_copyFrom_37 : decode M_Ln_copyFrom.2.1 37 = .ok (.putfield 43, 3) := by decide +kernel
theorem d_Ln_copyFrom_40 : decode M_Ln_copyFrom.2.1 40 = .ok (.iconst 0, 1) := by decide +kernel
theorem d_Ln_copyFrom_41 : decode M_Ln_copyFrom.2.1 41 = .ok (.istore_n 2, 1) := by decide +kernel
theorem d_Ln_copyFrom_42 : decode M_Ln_copyFrom.2.1 42 = .ok (.iload_n 2, 1) := by decide +kernel
theorem d_Ln_copyFrom_43 : decode M_Ln_copyFrom.2.1 43 = .ok (.iconst 5, 1) := by decide +kernel
theorem d_Ln_copyFrom_44 : decode M_Ln_copyFrom.2.1 44 = .ok (.if_icmp .ge 57, 3) := by decide +kernel
theorem d_Ln_copyFrom_47 : decode M_Ln_copyFrom.2.1 47 = .ok (.aload_n 0, 1) := by decide +kernel
theorem d_Ln_copyFrom_48 : decode M_Ln_copyFrom.2.1 48 = .ok (.getfield 9, 3) := by decide +kernel
theorem d_Ln_copyFrom_51 : decode M_Ln_copyFrom.2.1 51 = .ok (.iload_n 2, 1) := by decide +kernel
theorem d_Ln_copyFrom_52 : decode M_Ln_copyFrom.2.1 52 = .ok (.aload_n 1, 1) := by decide +kernel
theorem d_Ln_copyFrom_53 : decode M_Ln_copyFrom.2.1 53 = .ok (.getfield 9, 3) := by decide +kernel
theorem d_Ln_copyFrom_56 : decode M_Ln_copyFrom.2.1 56 = .ok (.iload_n 2, 1) := by decide +kernel
theorem d_Ln_copyFrom_57 : decode M_Ln_copyFrom.2.1 57 = .ok (.iaload, 1) := by decide +kernel
theorem d_Ln_copyFrom_58 : decode M_Ln_copyFrom.2.1 58 = .ok (.iastore, 1) := by decide +kernel
theorem d_Ln_copyFrom_59 : decode M_Ln_copyFrom.2.1 59 = .ok (.aload_n 0, 1) := by decide +kernel
theorem d_Ln_copyFrom_60 : decode M_Ln_copyFrom.2.1 60 = .ok (.getfield 15, 3) := by decide +kernel
theorem d_Ln_copyFrom_63 : decode M_Ln_copyFrom.2.1 63 = .ok (.iload_n 2, 1) := by decide +kernel
theorem d_Ln_copyFrom_64 : decode M_Ln_copyFrom.2.1 64 = .ok (.aload_n 1, 1) := by decide +kernel
theorem d_Ln_copyFrom_65 : decode M_Ln_copyFrom.2.1 65 = .ok (.getfield 15, 3) := by decide +kernel
theorem d_Ln_copyFrom_68 : decode M_Ln_copyFrom.2.1 68 = .ok (.iload_n 2, 1) := by decide +kernel
theorem d_Ln_copyFrom_69 : decode M_Ln_copyFrom.2.1 69 = .ok (.iaload, 1) := by decide +kernel
theorem d_Ln_copyFrom_70 : decode M_Ln_copyFrom.2.1 70 = .ok (.iastore, 1) := by decide +kernel
theorem d_Ln_copyFrom_71 : decode M_Ln_copyFrom.2.1 71 = .ok (.aload_n 0, 1) := by decide +kernel
theorem d_Ln_copyFrom_72 : decode M_Ln_copyFrom.2.1 72 = .ok (.getfield 18, 3) := by decide +kernel
theorem d_Ln_copyFrom_75 : decode M_Ln_copyFrom.2.1 75 = .ok (.iload_n 2, 1) := by decide +kernel
theorem d_Ln_copyFrom_76 : decode M_Ln_copyFrom.2.1 76 = .ok (.aload_n 1, 1) := by decide +kernel
theorem d_Ln_copyFrom_77 : decode M_Ln_copyFrom.2.1 77 = .ok (.getfield 18, 3) := by decide +kernel
theorem d_Ln_copyFrom_80 : decode M_Ln_copyFrom.2.1 80 = .ok (.iload_n 2, 1) := by decide +kernel
theorem d_Ln_copyFrom_81 : decode M_Ln_copyFrom.2.1 81 = .ok (.iaload, 1) := by decide +kernel
theorem d_Ln_copyFrom_82 : decode M_Ln_copyFrom.2.1 82 = .ok (.iastore, 1) := by decide +kernel
theorem d_Ln_copyFrom_83 : decode M_Ln_copyFrom.2.1 83 = .ok (.aload_n 0, 1) := by decide +kernel
theorem d_Ln_copyFrom_84 : decode M_Ln_copyFrom.2.1 84 = .ok (.getfield 21, 3) := by decide +kernel
theorem d_Ln_copyFrom_87 : decode M_Ln_copyFrom.2.1 87 = .ok (.iload_n 2, 1) := by decide +kernel
theorem d_Ln_copyFrom_88 : decode M_Ln_copyFrom.2.1 88 = .ok (.aload_n 1, 1) := by decide +kernel
theorem d_Ln_copyFrom_89 : decode M_Ln_copyFrom.2.1 89 = .ok (.getfield 21, 3) := by decide +kernel
theorem d_Ln_copyFrom_92 : decode M_Ln_copyFrom.2.1 92 = .ok (.iload_n 2, 1) := by decide +kernel
theorem d_Ln_copyFrom_93 : decode M_Ln_copyFrom.2.1 93 = .ok (.iaload, 1) := by decide +kernel
theorem d_Ln_copyFrom_94 : decode M_Ln_copyFrom.2.1 94 = .ok (.iastore, 1) := by decide +kernel
theorem d_Ln_copyFrom_95 : decode M_Ln_copyFrom.2.1 95 = .ok (.iinc 2 1, 3) := by decide +kernel
theorem d_Ln_copyFrom_98 : decode M_Ln_copyFrom.2.1 98 = .ok (.goto (-56), 3) := by decide +kernel
theorem d_Ln_copyFrom_101 : decode M_Ln_copyFrom.2.1 101 = .ok (.iconst 0, 1) := by decide +kernel
theorem d_Ln_copyFrom_102 : decode M_Ln_copyFrom.2.1 102 = .ok (.istore_n 2, 1) := by decide +kernel
theorem d_Ln_copyFrom_103 : decode M_Ln_copyFrom.2.1 103 = .ok (.iload_n 2, 1) := by decide +kernel
theorem d_Ln_copyFrom_104 : decode M_Ln_copyFrom.2.1 104 = .ok (.bipush 6, 2) := by decide +kernel
theorem d_Ln_copyFrom_106 : decode M_Ln_copyFrom.2.1 106 = .ok (.if_icmp .ge 33, 3) := by decide +kernel
theorem d_Ln_copyFrom_109 : decode M_Ln_copyFrom.2.1 109 = .ok (.aload_n 0, 1) := by decide +kernel
theorem d_Ln_copyFrom_110 : decode M_Ln_copyFrom.2.1 110 = .ok (.getfield 24, 3) := by decide +kernel
theorem d_Ln_copyFrom_113 : decode M_Ln_copyFrom.2.1 113 = .ok (.iload_n 2, 1) := by decide +kernel
theorem d_Ln_copyFrom_114 : decode M_Ln_copyFrom.2.1 114 = .ok (.aload_n 1, 1) := by decide +kernel
theorem d_Ln_copyFrom_115 : decode M_Ln_copyFrom.2.1 115 = .ok (.getfield 24, 3) := by decide +kernel
theorem d_Ln_copyFrom_118 : decode M_Ln_copyFrom.2.1 118 = .ok (.iload_n 2, 1) := by decide +kernel
theorem d_Ln_copyFrom_119 : decode M_Ln_copyFrom.2.1 119 = .ok (.iaload, 1) := by decide +kernel
theorem d_Ln_copyFrom_120 : decode M_Ln_copyFrom.2.1 120 = .ok (.iastore, 1) := by decide +kernel
theorem d_Ln_copyFrom_121 : decode M_Ln_copyFrom.2.1 121 = .ok (.aload_n 0, 1) := by decide +kernel
theorem d_Ln_copyFrom_122 : decode M_Ln_copyFrom.2.1 122 = .ok (.getfield 27, 3) := by decide +kernel
theorem d_Ln_copyFrom_125 : decode M_Ln_copyFrom.2.1 125 = .ok (.iload_n 2, 1) := by decide +kernel
theorem d_Ln_copyFrom_126 : decode M_Ln_copyFrom.2.1 126 = .ok (.aload_n 1, 1) := by decide +kernel
theorem d_Ln_copyFrom_127 : decode M_Ln_copyFrom.2.1 127 = .ok (.getfield 27, 3) := by decide +kernel
theorem d_Ln_copyFrom_130 : decode M_Ln_copyFrom.2.1 130 = .ok (.iload_n 2, 1) := by decide +kernel
theorem d_Ln_copyFrom_131 : decode M_Ln_copyFrom.2.1 131 = .ok (.iaload, 1) := by decide +kernel
theorem d_Ln_copyFrom_132 : decode M_Ln_copyFrom.2.1 132 = .ok (.iastore, 1) := by decide +kernel
theorem d_Ln_copyFrom_133 : decode M_Ln_copyFrom.2.1 133 = .ok (.iinc 2 1, 3) := by decide +kernel
theorem d_Ln_copyFrom_136 : decode M_Ln_copyFrom.2.1 136 = .ok (.goto (-33), 3) := by decide +kernel
theorem d_Ln_copyFrom_139 : decode M_Ln_copyFrom.2.1 139 = .ok (.return_, 1) := by decide +kernel
theorem d_Ln_save_0 : decode M_Ln_save.2.1 0 = .ok (.aload_n 1, 1) := by decide +kernel
theorem d_Ln_save_1 : decode M_Ln_save.2.1 1 = .ok (.ifnull 10, 3) := by decide +kernel
theorem d_Ln_save_4 : decode M_Ln_save.2.1 4 = .ok (.aload_n 1, 1) := by decide +kernel
theorem d_Ln_save_5 : decode M_Ln_save.2.1 5 = .ok (.arraylength, 1) := by decide +kernel
theorem d_Ln_save_6 : decode M_Ln_save.2.1 6 = .ok (.bipush 19, 2) := by decide +kernel
theorem d_Ln_save_8 : decode M_Ln_save.2.1 8 = .ok (.if_icmp .ge 4, 3) := by decide +kernel
theorem d_Ln_save_11 : decode M_Ln_save.2.1 11 = .ok (.return_, 1) := by decide +kernel
theorem d_Ln_save_12 : decode M_Ln_save.2.1 12 = .ok (.iconst 0, 1) := by decide +kernel
theorem d_Ln_save_13 : decode M_Ln_save.2.1 13 = .ok (.istore_n 2, 1) := by decide +kernel
theorem d_Ln_save_14 : decode M_Ln_save.2.1 14 = .ok (.iload_n 2, 1) := by decide +kernel
theorem d_Ln_save_15 : decode M_Ln_save.2.1 15 = .ok (.iconst 5, 1) := by decide +kernel
theorem d_Ln_save_16 : decode M_Ln_save.2.1 16 = .ok (.if_icmp .ge 30, 3) := by decide +kernel
theorem d_Ln_save_19 : decode M_Ln_save.2.1 19 = .ok (.aload_n 1, 1) := by decide +kernel
theorem d_Ln_save_20 : decode M_Ln_save.2.1 20 = .ok (.iload_n 2, 1) := by decide +kernel
theorem d_Ln_save_21 : decode M_Ln_save.2.1 21 = .ok (.aload_n 0, 1) := by decide +kernel
theorem d_Ln_save_22 : decode M_Ln_save.2.1 22 = .ok (.getfield 15, 3) := by decide +kernel
theorem d_Ln_save_25 : decode M_Ln_save.2.1 25 = .ok (.iload_n 2, 1) := by decide +kernel
theorem d_Ln_save_26 : decode M_Ln_save.2.1 26 = .ok (.iaload, 1) := by decide +kernel
theorem d_Ln_save_27 : decode M_Ln_save.2.1 27 = .ok (.iastore, 1) := by decide +kernel
theorem d_Ln_save_28 : decode M_Ln_save.2.1 28 = .ok (.aload_n 1, 1) := by decide +kernel
theorem d_Ln_save_29 : decode M_Ln_save.2.1 29 = .ok (.bipush 11, 2) := by decide +kernel
theorem d_Ln_save_31 : decode M_Ln_save.2.1 31 = .ok (.iload_n 2, 1) := by decide +kernel
theorem d_Ln_save_32 : decode M_Ln_save.2.1 32 = .ok (.iadd, 1) := by decide +kernel
theorem d_Ln_save_33 : decode M_Ln_save.2.1 33 = .ok (.aload_n 0, 1) := by decide +kernel
theorem d_Ln_save_34 : decode M_Ln_save.2.1 34 = .ok (.getfield 21, 3) := by decide +kernel
theorem d_Ln_save_37 : decode M_Ln_save.2.1 37 = .ok (.iload_n 2, 1) := by decide +kernel
theorem d_Ln_save_38 : decode M_Ln_save.2.1 38 = .ok (.iaload, 1) := by decide +kernel
theorem d_Ln_save_39 : decode M_Ln_save.2.1 39 = .ok (.iastore, 1) := by decide +kernel
theorem d_Ln_save_40 : decode M_Ln_save.2.1 40 = .ok (.iinc 2 1, 3) := by decide +kernel
theorem d_Ln_save_43 : decode M_Ln_save.2.1 43 = .ok (.goto (-29), 3) := by decide +kernel
theorem d_Ln_save_46 : decode M_Ln_save.2.1 46 = .ok (.iconst 0, 1) := by decide +kernel
theorem d_Ln_save_47 : decode M_Ln_save.2.1 47 = .ok (.istore_n 2, 1) := by decide +kernel
theorem d_Ln_save_48 : decode M_Ln_save.2.1 48 = .ok (.iload_n 2, 1) := by decide +kernel
theorem d_Ln_save_49 : decode M_Ln_save.2.1 49 = .ok (.bipush 6, 2) := by decide +kernel
theorem d_Ln_save_51 : decode M_Ln_save.2.1 51 = .ok (.if_icmp .ge 20, 3) := by decide +kernel
theorem d_Ln_save_54 : decode M_Ln_save.2.1 54 = .ok (.aload_n 1, 1) := by decide +kernel
theorem d_Ln_save_55 : decode M_Ln_save.2.1 55 = .ok (.iconst 5, 1) := by decide +kernel
theorem d_Ln_save_56 : decode M_Ln_save.2.1 56 = .ok (.iload_n 2, 1) := by decide +kernel
theorem d_Ln_save_57 : decode M_Ln_save.2.1 57 = .ok (.iadd, 1) := by decide +kernel
theorem d_Ln_save_58 : decode M_Ln_save.2.1 58 = .ok (.aload_n 0, 1) := by decide +kernel
theorem d_Ln_save_59 : decode M_Ln_save.2.1 59 = .ok (.getfield 24, 3) := by decide +kernel
theorem d_Ln_save_62 : decode M_Ln_save.2.1 62 = .ok (.iload_n 2, 1) := by decide +kernel
theorem d_Ln_save_63 : decode M_Ln_save.2.1 63 = .ok (.iaload, 1) := by decide +kernel
theorem d_Ln_save_64 : decode M_Ln_save.2.1 64 = .ok (.iastore, 1) := by decide +kernel
theorem d_Ln_save_65 : decode M_Ln_save.2.1 65 = .ok (.iinc 2 1, 3) := by decide +kernel
theorem d_Ln_save_68 : decode M_Ln_save.2.1 68 = .ok (.goto (-20), 3) := by decide +kernel
theorem d_Ln_save_71 : decode M_Ln_save.2.1 71 = .ok (.aload_n 1, 1) := by decide +kernel
theorem d_Ln_save_72 : decode M_Ln_save.2.1 72 = .ok (.bipush 16, 2) := by decide +kernel
theorem d_Ln_save_74 : decode M_Ln_save.2.1 74 = .ok (.aload_n 0, 1) := by decide +kernel
theorem d_Ln_save_75 : decode M_Ln_save.2.1 75 = .ok (.getfield 37, 3) := by decide +kernel
theorem d_Ln_save_78 : decode M_Ln_save.2.1 78 = .ok (.iastore, 1) := by decide +kernel
theorem d_Ln_save_79 : decode M_Ln_save.2.1 79 = .ok (.aload_n 1, 1) := by decide +kernel
theorem d_Ln_save_80 : decode M_Ln_save.2.1 80 = .ok (.bipush 17, 2) := by decide +kernel
theorem d_Ln_save_82 : decode M_Ln_save.2.1 82 = .ok (.aload_n 0, 1) := by decide +kernel
theorem d_Ln_save_83 : decode M_Ln_save.2.1 83 = .ok (.getfield 40, 3) := by decide +kernel
theorem d_Ln_save_86 : decode M_Ln_save.2.1 86 = .ok (.iastore, 1) := by decide +kernel
theorem d_Ln_save_87 : decode M_Ln_save.2.1 87 = .ok (.aload_n 1, 1) := by decide +kernel
theorem d_Ln_save_88 : decode M_Ln_save.2.1 88 = .ok (.bipush 18, 2) := by decide +kernel
theorem d_Ln_save_90 : decode M_Ln_save.2.1 90 = .ok (.aload_n 0, 1) := by decide +kernel
theorem d_Ln_save_91 : decode M_Ln_save.2.1 91 = .ok (.getfield 43, 3) := by decide +kernel
theorem d_Ln_save_94 : decode M_Ln_save.2.1 94 = .ok (.iastore, 1) := by decide +kernel
theorem d_Ln_save_95 : decode M_Ln_save.2.1 95 = .ok (.return_, 1) := by decide +kernel
theorem d_Ln_load_0 : decode M_Ln_load.2.1 0 = .ok (.aload_n 1, 1) := by decide +kernel
theorem d_Ln_load_1 : decode M_Ln_load.2.1 1 = .ok (.ifnull 10, 3) := by decide +kernel
theorem d_Ln_load_4 : decode M_Ln_load.2.1 4 = .ok (.aload_n 1, 1) := by decide +kernel
theorem d_Ln_load_5 : decode M_Ln_load.2.1 5 = .ok (.arraylength, 1) := by decide +kernel
theorem d_Ln_load_6 : decode M_Ln_load.2.1 6 = .ok (.bipush 19, 2) := by decide +kernel
theorem d_Ln_load_8 : decode M_Ln_load.2.1 8 = .ok (.if_icmp .ge 4, 3) := by decide +kernel
theorem d_Ln_load_11 : decode M_Ln_load.2.1 11 = .ok (.return_, 1) := by decide +kernel
theorem d_Ln_load_12 : decode M_Ln_load.2.1 12 = .ok (.iconst 0, 1) := by decide +kernel
theorem d_Ln_load_13 : decode M_Ln_load.2.1 13 = .ok (.istore_n 2, 1) := by decide +kernel
theorem d_Ln_load_14 : decode M_Ln_load.2.1 14 = .ok (.iload_n 2, 1) := by decide +kernel
theorem d_Ln_load_15 : decode M_Ln_load.2.1 15 = .ok (.iconst 5, 1) := by decide +kernel
theorem d_Ln_load_16 : decode M_Ln_load.2.1 16 = .ok (.if_icmp .ge 30, 3) := by decide +kernel
theorem d_Ln_load_19 : decode M_Ln_load.2.1 19 = .ok (.aload_n 0, 1) := by decide +kernel
theorem d_Ln_load_20 : decode M_Ln_load.2.1 20 = .ok (.getfield 15, 3) := by decide +kernel
theorem d_Ln_load_23 : decode M_Ln_load.2.1 23 = .ok (.iload_n 2, 1) := by decide +kernel
theorem d_Ln_load_24 : decode M_Ln_load.2.1 24 = .ok (.aload_n 1, 1) := by decide +kernel
theorem d_Ln_load_25 : decode M_Ln_load.2.1 25 = .ok (.iload_n 2, 1) := by decide +kernel
theorem d_Ln_load_26 : decode M_Ln_load.2.1 26 = .ok (.iaload, 1) := by decide +kernel
theorem d_Ln_load_27 : decode M_Ln_load.2.1 27 = .ok (.iastore, 1) := by decide +kernel
theorem d_Ln_load_28 : decode M_Ln_load.2.1 28 = .ok (.aload_n 0, 1) := by decide +kernel
theorem d_Ln_load_29 : decode M_Ln_load.2.1 29 = .ok (.getfield 21, 3) := by decide +kernel
theorem d_Ln_load_32 : decode M_Ln_load.2.1 32 = .ok (.iload_n 2, 1) := by decide +kernel
theorem d_Ln_load_33 : decode M_Ln_load.2.1 33 = .ok (.aload_n 1, 1) := by decide +kernel
theorem d_Ln_load_34 : decode M_Ln_load.2.1 34 = .ok (.bipush 11, 2) := by decide +kernel
theorem d_Ln_load_36 : decode M_Ln_load.2.1 36 = .ok (.iload_n 2, 1) := by decide +kernel
theorem d_Ln_load_37 : decode M_Ln_load.2.1 37 = .ok (.iadd, 1) := by decide +kernel
theorem d_Ln_load_38 : decode M_Ln_load.2.1 38 = .ok (.iaload, 1) := by decide +kernel
theorem d_Ln_load_39 : decode M_Ln_load.2.1 39 = .ok (.iastore, 1) := by decide +kernel
theorem d_Ln_load_40 : decode M_Ln_load.2.1 40 = .ok (.iinc 2 1, 3) := by decide +kernel
theorem d_Ln_load_43 : decode M_Ln_load.2.1 43 = .ok (.goto (-29), 3) := by decide +kernel
theorem d_Ln_load_46 : decode M_Ln_load.2.1 46 = .ok (.iconst 0, 1) := by decide +kernel
theorem d_Ln_load_47 : decode M_Ln_load.2.1 47 = .ok (.istore_n 2, 1) := by decide +kernel
theorem d_Ln_load_48 : decode M_Ln_load.2.1 48 = .ok (.iload_n 2, 1) := by decide +kernel
theorem d_Ln_load_49 : decode M_Ln_load.2.1 49 = .ok (.bipush 6, 2) := by decide +kernel
theorem d_Ln_load_51 : decode M_Ln_load.2.1 51 = .ok (.if_icmp .ge 20, 3) := by decide +kernel
theorem d_Ln_load_54 : decode M_Ln_load.2.1 54 = .ok (.aload_n 0, 1) := by decide +kernel
theorem d_Ln_load_55 : decode M_Ln_load.2.1 55 = .ok (.getfield 24, 3) := by decide +kernel
theorem d_Ln_load_58 : decode M_Ln_load.2.1 58 = .ok (.iload_n 2, 1) := by decide +kernel
theorem d_Ln_load_59 : decode M_Ln_load.2.1 59 = .ok (.aload_n 1, 1) := by decide +kernel
theorem d_Ln_load_60 : decode M_Ln_load.2.1 60 = .ok (.iconst 5, 1) := by decide +kernel
theorem d_Ln_load_61 : decode M_Ln_load.2.1 61 = .ok (.iload_n 2, 1) := by decide +kernel
theorem d_Ln_load_62 : decode M_Ln_load.2.1 62 = .ok (.iadd, 1) := by decide +kernel
theorem d_Ln_load_63 : decode M_Ln_load.2.1 63 = .ok (.iaload, 1) := by decide +kernel
theorem d_Ln_load_64 : decode M_Ln_load.2.1 64 = .ok (.iastore, 1) := by decide +kernel
theorem d_Ln_load_65 : decode M_Ln_load.2.1 65 = .ok (.iinc 2 1, 3) := by decide +kernel
theorem d_Ln_load_68 : decode M_Ln_load.2.1 68 = .ok (.goto (-20), 3) := by decide +kernel
theorem d_Ln_load_71 : decode M_Ln_load.2.1 71 = .ok (.aload_n 0, 1) := by decide +kernel
theorem d_Ln_load_72 : decode M_Ln_load.2.1 72 = .ok (.aload_n 1, 1) := by decide +kernel
theorem d_Ln_load_73 : decode M_Ln_load.2.1 73 = .ok (.bipush 16, 2) := by decide +kernel
theorem d_Ln_load_75 : decode M_Ln_load.2.1 75 = .ok (.iaload, 1) := by decide +kernel
theorem d_Ln_load_76 : decode M_Ln_load.2.1 76 = .ok (.putfield 37, 3) := by decide +kernel
theorem d_Ln_load_79 : decode M_Ln_load.2.1 79 = .ok (.aload_n 0, 1) := by decide +kernel
theorem d_Ln_load_80 : decode M_Ln_load.2.1 80 = .ok (.aload_n 1, 1) := by decide +kernel
theorem d_Ln_load_81 : decode M_Ln_load.2.1 81 = .ok (.bipush 17, 2) := by decide +kernel
theorem d_Ln_load_83 : decode M_Ln_load.2.1 83 = .ok (.iaload, 1) := by decide +kernel
theorem d_Ln_load_84 : decode M_Ln_load.2.1 84 = .ok (.putfield 40, 3) := by decide +kernel
theorem d_Ln_load_87 : decode M_Ln_load.2.1 87 = .ok (.aload_n 0, 1) := by decide +kernel
theorem d_Ln_load_88 : decode M_Ln_load.2.1 88 = .ok (.aload_n 1, 1) := by decide +kernel
theorem d_Ln_load_89 : decode M_Ln_load.2.1 89 = .ok (.bipush 18, 2) := by decide +kernel
theorem d_Ln_load_91 : decode M_Ln_load.2.1 91 = .ok (.iaload, 1) := by decide +kernel
theorem d_Ln_load_92 : decode M_Ln_load.2.1 92 = .ok (.putfield 43, 3) := by decide +kernel
theorem d_Ln_load_95 : decode M_Ln_load.2.1 95 = .ok (.return_, 1) := by decide +kernel
theorem d_Ln_hasWindow_0 : decode M_Ln_hasWindow.2.1 0 = .ok (.iload_n 1, 1) := by decide +kernel
theorem d_Ln_hasWindow_1 : decode M_Ln_hasWindow.2.1 1 = .ok (.ifCond .lt 20, 3) := by decide +kernel
theorem d_Ln_hasWindow_4 : decode M_Ln_hasWindow.2.1 4 = .ok (.iload_n 1, 1) := by decide +kernel
theorem d_Ln_hasWindow_5 : decode M_Ln_hasWindow.2.1 5 = .ok (.aload_n 0, 1) := by decide +kernel
theorem d_Ln_hasWindow_6 : decode M_Ln_hasWindow.2.1 6 = .ok (.getfield 30, 3) := by decide +kernel
theorem d_Ln_hasWindow_9 : decode M_Ln_hasWindow.2.1 9 = .ok (.if_icmp .ge 12, 3) := by decide +kernel
theorem d_Ln_hasWindow_12 : decode M_Ln_hasWindow.2.1 12 = .ok (.iload_n 1, 1) := by decide +kernel
theorem d_Ln_hasWindow_13 : decode M_Ln_hasWindow.2.1 13 = .ok (.iconst 5, 1) := by decide +kernel
theorem d_Ln_hasWindow_14 : decode M_Ln_hasWindow.2.1 14 = .ok (.if_icmp .ge 7, 3) := by decide +kernel
theorem d_Ln_hasWindow_17 : decode M_Ln_hasWindow.2.1 17 = .ok (.iconst 1, 1) := by decide +kernel
theorem d_Ln_hasWindow_18 : decode M_Ln_hasWindow.2.1 18 = .ok (.goto 4, 3) := by decide +kernel
theorem d_Ln_hasWindow_21 : decode M_Ln_hasWindow.2.1 21 = .ok (.iconst 0, 1) := by decide +kernel
theorem d_Ln_hasWindow_22 : decode M_Ln_hasWindow.2.1 22 = .ok (.ireturn, 1) := by decide +kernel
theorem d_Ln_hasMoth_0 : decode M_Ln_hasMoth.2.1 0 = .ok (.iload_n 1, 1) := by decide +kernel
theorem d_Ln_hasMoth_1 : decode M_Ln_hasMoth.2.1 1 = .ok (.ifCond .lt 21, 3) := by decide +kernel
theorem d_Ln_hasMoth_4 : decode M_Ln_hasMoth.2.1 4 = .ok (.iload_n 1, 1) := by decide +kernel
theorem d_Ln_hasMoth_5 : decode M_Ln_hasMoth.2.1 5 = .ok (.aload_n 0, 1) := by decide +kernel
theorem d_Ln_hasMoth_6 : decode M_Ln_hasMoth.2.1 6 = .ok (.getfield 34, 3) := by decide +kernel
theorem d_Ln_hasMoth_9 : decode M_Ln_hasMoth.2.1 9 = .ok (.if_icmp .ge 13, 3) := by decide +kernel
theorem d_Ln_hasMoth_12 : decode M_Ln_hasMoth.2.1 12 = .ok (.iload_n 1, 1) := by decide +kernel
theorem d_Ln_hasMoth_13 : decode M_Ln_hasMoth.2.1 13 = .ok (.bipush 6, 2) := by decide +kernel
theorem d_Ln_hasMoth_15 : decode M_Ln_hasMoth.2.1 15 = .ok (.if_icmp .ge 7, 3) := by decide +kernel
theorem d_Ln_hasMoth_18 : decode M_Ln_hasMoth.2.1 18 = .ok (.iconst 1, 1) := by decide +kernel
theorem d_Ln_hasMoth_19 : decode M_Ln_hasMoth.2.1 19 = .ok (.goto 4, 3) := by decide +kernel
theorem d_Ln_hasMoth_22 : decode M_Ln_hasMoth.2.1 22 = .ok (.iconst 0, 1) := by decide +kernel
theorem d_Ln_hasMoth_23 : decode M_Ln_hasMoth.2.1 23 = .ok (.ireturn, 1) := by decide +kernel
theorem d_Ln_isFree_0 : decode M_Ln_isFree.2.1 0 = .ok (.iconst 0, 1) := by decide +kernel
theorem d_Ln_isFree_1 : decode M_Ln_isFree.2.1 1 = .ok (.istore_n 2, 1) := by decide +kernel
theorem d_Ln_isFree_2 : decode M_Ln_isFree.2.1 2 = .ok (.iload_n 2, 1) := by decide +kernel
theorem d_Ln_isFree_3 : decode M_Ln_isFree.2.1 3 = .ok (.aload_n 0, 1) := by decide +kernel
theorem d_Ln_isFree_4 : decode M_Ln_isFree.2.1 4 = .ok (.getfield 30, 3) := by decide +kernel
theorem d_Ln_isFree_7 : decode M_Ln_isFree.2.1 7 = .ok (.if_icmp .ge 21, 3) := by decide +kernel
theorem d_Ln_isFree_10 : decode M_Ln_isFree.2.1 10 = .ok (.aload_n 0, 1) := by decide +kernel
theorem d_Ln_isFree_11 : decode M_Ln_isFree.2.1 11 = .ok (.getfield 9, 3) := by decide +kernel
theorem d_Ln_isFree_14 : decode M_Ln_isFree.2.1 14 = .ok (.iload_n 2, 1) := by decide +kernel
theorem d_Ln_isFree_15 : decode M_Ln_isFree.2.1 15 = .ok (.iaload, 1) := by decide +kernel
theorem d_Ln_isFree_16 : decode M_Ln_isFree.2.1 16 = .ok (.iload_n 1, 1) := by decide +kernel
theorem d_Ln_isFree_17 : decode M_Ln_isFree.2.1 17 = .ok (.if_icmp .ne 5, 3) := by decide +kernel
theorem d_Ln_isFree_20 : decode M_Ln_isFree.2.1 20 = .ok (.iconst 0, 1) := by decide +kernel
theorem d_Ln_isFree_21 : decode M_Ln_isFree.2.1 21 = .ok (.ireturn, 1) := by decide +kernel
theorem d_Ln_isFree_22 : decode M_Ln_isFree.2.1 22 = .ok (.iinc 2 1, 3) := by decide +kernel
theorem d_Ln_isFree_25 : decode M_Ln_isFree.2.1 25 = .ok (.goto (-23), 3) := by decide +kernel
theorem d_Ln_isFree_28 : decode M_Ln_isFree.2.1 28 = .ok (.iconst 1, 1) := by decide +kernel
theorem d_Ln_isFree_29 : decode M_Ln_isFree.2.1 29 = .ok (.ireturn, 1) := by decide +kernel
theorem d_Ln_tug_0 : decode M_Ln_tug.2.1 0 = .ok (.aload_n 0, 1) := by decide +kernel
theorem d_Ln_tug_1 : decode M_Ln_tug.2.1 1 = .ok (.iload_n 1, 1) := by decide +kernel
theorem d_Ln_tug_2 : decode M_Ln_tug.2.1 2 = .ok (.invokevirtual 49, 3) := by decide +kernel
theorem d_Ln_tug_5 : decode M_Ln_tug.2.1 5 = .ok (.ifCond .eq 21, 3) := by decide +kernel
theorem d_Ln_tug_8 : decode M_Ln_tug.2.1 8 = .ok (.aload_n 0, 1) := by decide +kernel
theorem d_Ln_tug_9 : decode M_Ln_tug.2.1 9 = .ok (.iload_n 2, 1) := by decide +kernel
theorem d_Ln_tug_10 : decode M_Ln_tug.2.1 10 = .ok (.invokevirtual 53, 3) := by decide +kernel
theorem d_Ln_tug_13 : decode M_Ln_tug.2.1 13 = .ok (.ifCond .eq 13, 3) := by decide +kernel
theorem d_Ln_tug_16 : decode M_Ln_tug.2.1 16 = .ok (.aload_n 0, 1) := by decide +kernel
theorem d_Ln_tug_17 : decode M_Ln_tug.2.1 17 = .ok (.getfield 15, 3) := by decide +kernel
theorem d_Ln_tug_20 : decode M_Ln_tug.2.1 20 = .ok (.iload_n 1, 1) := by decide +kernel
theorem d_Ln_tug_21 : decode M_Ln_tug.2.1 21 = .ok (.iaload, 1) := by decide +kernel
theorem d_Ln_tug_22 : decode M_Ln_tug.2.1 22 = .ok (.iconst 1, 1) := by decide +kernel
theorem d_Ln_tug_23 : decode M_Ln_tug.2.1 23 = .ok (.if_icmp .ge 5, 3) := by decide +kernel
theorem d_Ln_tug_26 : decode M_Ln_tug.2.1 26 = .ok (.iconst 0, 1) := by decide +kernel
theorem d_Ln_tug_27 : decode M_Ln_tug.2.1 27 = .ok (.ireturn, 1) := by decide +kernel
theorem d_Ln_tug_28 : decode M_Ln_tug.2.1 28 = .ok (.aload_n 0, 1) := by decide +kernel
theorem d_Ln_tug_29 : decode M_Ln_tug.2.1 29 = .ok (.getfield 9, 3) := by decide +kernel
theorem d_Ln_tug_32 : decode M_Ln_tug.2.1 32 = .ok (.iload_n 1, 1) := by decide +kernel
theorem d_Ln_tug_33 : decode M_Ln_tug.2.1 33 = .ok (.iaload, 1) := by decide +kernel
theorem d_Ln_tug_34 : decode M_Ln_tug.2.1 34 = .ok (.aload_n 0, 1) := by decide +kernel
theorem d_Ln_tug_35 : decode M_Ln_tug.2.1 35 = .ok (.getfield 24, 3) := by decide +kernel
theorem d_Ln_tug_38 : decode M_Ln_tug.2.1 38 = .ok (.iload_n 2, 1) := by decide +kernel
theorem d_Ln_tug_39 : decode M_Ln_tug.2.1 39 = .ok (.iaload, 1) := by decide +kernel
theorem d_Ln_tug_40 : decode M_Ln_tug.2.1 40 = .ok (.isub, 1) := by decide +kernel
theorem d_Ln_tug_41 : decode M_Ln_tug.2.1 41 = .ok (.invokestatic 56, 3) := by decide +kernel
theorem d_Ln_tug_44 : decode M_Ln_tug.2.1 44 = .ok (.istore_n 3, 1) := by decide +kernel
theorem d_Ln_tug_45 : decode M_Ln_tug.2.1 45 = .ok (.iconst 0, 1) := by decide +kernel
theorem d_Ln_tug_46 : decode M_Ln_tug.2.1 46 = .ok (.aload_n 0, 1) := by decide +kernel
theorem d_Ln_tug_47 : decode M_Ln_tug.2.1 47 = .ok (.iload_n 1, 1) := by decide +kernel
theorem d_Ln_tug_48 : decode M_Ln_tug.2.1 48 = .ok (.invokevirtual 62, 3) := by decide +kernel
theorem d_Ln_tug_51 : decode M_Ln_tug.2.1 51 = .ok (.aload_n 0, 1) := by decide +kernel
theorem d_Ln_tug_52 : decode M_Ln_tug.2.1 52 = .ok (.aload_n 0, 1) := by decide +kernel
theorem d_Ln_tug_53 : decode M_Ln_tug.2.1 53 = .ok (.getfield 24, 3) := by decide +kernel
theorem d_Ln_tug_56 : decode M_Ln_tug.2.1 56 = .ok (.iload_n 2, 1) := by decide +kernel
theorem d_Ln_tug_57 : decode M_Ln_tug.2.1 57 = .ok (.iaload, 1) := by decide +kernel
theorem d_Ln_tug_58 : decode M_Ln_tug.2.1 58 = .ok (.aload_n 0, 1) := by decide +kernel
theorem d_Ln_tug_59 : decode M_Ln_tug.2.1 59 = .ok (.getfield 9, 3) := by decide +kernel
theorem d_Ln_tug_62 : decode M_Ln_tug.2.1 62 = .ok (.iload_n 1, 1) := by decide +kernel
theorem d_Ln_tug_63 : decode M_Ln_tug.2.1 63 = .ok (.iaload, 1) := by decide +kernel
theorem d_Ln_tug_64 : decode M_Ln_tug.2.1 64 = .ok (.invokevirtual 65, 3) := by decide +kernel
theorem d_Ln_tug_67 : decode M_Ln_tug.2.1 67 = .ok (.iadd, 1) := by decide +kernel
theorem d_Ln_tug_68 : decode M_Ln_tug.2.1 68 = .ok (.aload_n 0, 1) := by decide +kernel
theorem d_Ln_tug_69 : decode M_Ln_tug.2.1 69 = .ok (.iload_n 1, 1) := by decide +kernel
theorem d_Ln_tug_70 : decode M_Ln_tug.2.1 70 = .ok (.iload_n 2, 1) := by decide +kernel
theorem d_Ln_tug_71 : decode M_Ln_tug.2.1 71 = .ok (.invokevirtual 69, 3) := by decide +kernel
theorem d_Ln_tug_74 : decode M_Ln_tug.2.1 74 = .ok (.iadd, 1) := by decide +kernel
theorem d_Ln_tug_75 : decode M_Ln_tug.2.1 75 = .ok (.iload_n 3, 1) := by decide +kernel
theorem d_Ln_tug_76 : decode M_Ln_tug.2.1 76 = .ok (.isub, 1) := by decide +kernel
theorem d_Ln_tug_77 : decode M_Ln_tug.2.1 77 = .ok (.invokestatic 72, 3) := by decide +kernel
theorem d_Ln_tug_80 : decode M_Ln_tug.2.1 80 = .ok (.ireturn, 1) := by decide +kernel
theorem d_Ln_glow_0 : decode M_Ln_glow.2.1 0 = .ok (.aload_n 0, 1) := by decide +kernel
theorem d_Ln_glow_1 : decode M_Ln_glow.2.1 1 = .ok (.getfield 18, 3) := by decide +kernel
theorem d_Ln_glow_4 : decode M_Ln_glow.2.1 4 = .ok (.iload_n 1, 1) := by decide +kernel
theorem d_Ln_glow_5 : decode M_Ln_glow.2.1 5 = .ok (.iaload, 1) := by decide +kernel
theorem d_Ln_glow_6 : decode M_Ln_glow.2.1 6 = .ok (.iconst 1, 1) := by decide +kernel
theorem d_Ln_glow_7 : decode M_Ln_glow.2.1 7 = .ok (.if_icmp .ne 12, 3) := by decide +kernel
theorem d_Ln_glow_10 : decode M_Ln_glow.2.1 10 = .ok (.aload_n 0, 1) := by decide +kernel
theorem d_Ln_glow_11 : decode M_Ln_glow.2.1 11 = .ok (.getfield 15, 3) := by decide +kernel
theorem d_Ln_glow_14 : decode M_Ln_glow.2.1 14 = .ok (.iload_n 1, 1) := by decide +kernel
theorem d_Ln_glow_15 : decode M_Ln_glow.2.1 15 = .ok (.iaload, 1) := by decide +kernel
theorem d_Ln_glow_16 : decode M_Ln_glow.2.1 16 = .ok (.iconst 2, 1) := by decide +kernel
theorem d_Ln_glow_17 : decode M_Ln_glow.2.1 17 = .ok (.idiv, 1) := by decide +kernel
theorem d_Ln_glow_18 : decode M_Ln_glow.2.1 18 = .ok (.ireturn, 1) := by decide +kernel
theorem d_Ln_glow_19 : decode M_Ln_glow.2.1 19 = .ok (.aload_n 0, 1) := by decide +kernel
theorem d_Ln_glow_20 : decode M_Ln_glow.2.1 20 = .ok (.getfield 18, 3) := by decide +kernel
theorem d_Ln_glow_23 : decode M_Ln_glow.2.1 23 = .ok (.iload_n 1, 1) := by decide +kernel
theorem d_Ln_glow_24 : decode M_Ln_glow.2.1 24 = .ok (.iaload, 1) := by decide +kernel
theorem d_Ln_glow_25 : decode M_Ln_glow.2.1 25 = .ok (.iconst 3, 1) := by decide +kernel
theorem d_Ln_glow_26 : decode M_Ln_glow.2.1 26 = .ok (.if_icmp .ne 14, 3) := by decide +kernel
theorem d_Ln_glow_29 : decode M_Ln_glow.2.1 29 = .ok (.aload_n 0, 1) := by decide +kernel
theorem d_Ln_glow_30 : decode M_Ln_glow.2.1 30 = .ok (.getfield 15, 3) := by decide +kernel
theorem d_Ln_glow_33 : decode M_Ln_glow.2.1 33 = .ok (.iload_n 1, 1) := by decide +kernel
theorem d_Ln_glow_34 : decode M_Ln_glow.2.1 34 = .ok (.iaload, 1) := by decide +kernel
theorem d_Ln_glow_35 : decode M_Ln_glow.2.1 35 = .ok (.iconst 2, 1) := by decide +kernel
theorem d_Ln_glow_36 : decode M_Ln_glow.2.1 36 = .ok (.iadd, 1) := by decide +kernel
theorem d_Ln_glow_37 : decode M_Ln_glow.2.1 37 = .ok (.goto 9, 3) := by decide +kernel
theorem d_Ln_glow_40 : decode M_Ln_glow.2.1 40 = .ok (.aload_n 0, 1) := by decide +kernel
theorem d_Ln_glow_41 : decode M_Ln_glow.2.1 41 = .ok (.getfield 15, 3) := by decide +kernel
theorem d_Ln_glow_44 : decode M_Ln_glow.2.1 44 = .ok (.iload_n 1, 1) := by decide +kernel
theorem d_Ln_glow_45 : decode M_Ln_glow.2.1 45 = .ok (.iaload, 1) := by decide +kernel
theorem d_Ln_glow_46 : decode M_Ln_glow.2.1 46 = .ok (.ireturn, 1) := by decide +kernel
theorem d_Ln_windHelp_0 : decode M_Ln_windHelp.2.1 0 = .ok (.aload_n 0, 1) := by decide +kernel
theorem d_Ln_windHelp_1 : decode M_Ln_windHelp.2.1 1 = .ok (.getfield 37, 3) := by decide +kernel
theorem d_Ln_windHelp_4 : decode M_Ln_windHelp.2.1 4 = .ok (.ifCond .ne 8, 3) := by decide +kernel
theorem d_Ln_windHelp_7 : decode M_Ln_windHelp.2.1 7 = .ok (.iload_n 2, 1) := by decide +kernel
theorem d_Ln_windHelp_8 : decode M_Ln_windHelp.2.1 8 = .ok (.iload_n 1, 1) := by decide +kernel
theorem d_Ln_windHelp_9 : decode M_Ln_windHelp.2.1 9 = .ok (.if_icmp .lt 16, 3) := by decide +kernel
theorem d_Ln_windHelp_12 : decode M_Ln_windHelp.2.1 12 = .ok (.aload_n 0, 1) := by decide +kernel
theorem d_Ln_windHelp_13 : decode M_Ln_windHelp.2.1 13 = .ok (.getfield 37, 3) := by decide +kernel
theorem d_Ln_windHelp_16 : decode M_Ln_windHelp.2.1 16 = .ok (.iconst 2, 1) := by decide +kernel
theorem d_Ln_windHelp_17 : decode M_Ln_windHelp.2.1 17 = .ok (.if_icmp .ne 12, 3) := by decide +kernel
theorem d_Ln_windHelp_20 : decode M_Ln_windHelp.2.1 20 = .ok (.iload_n 2, 1) := by decide +kernel
theorem d_Ln_windHelp_21 : decode M_Ln_windHelp.2.1 21 = .ok (.iload_n 1, 1) := by decide +kernel
theorem d_Ln_windHelp_22 : decode M_Ln_windHelp.2.1 22 = .ok (.if_icmp .le 7, 3) := by decide +kernel
theorem d_Ln_windHelp_25 : decode M_Ln_windHelp.2.1 25 = .ok (.iconst 1, 1) := by decide +kernel
theorem d_Ln_windHelp_26 : decode M_Ln_windHelp.2.1 26 = .ok (.goto 4, 3) := by decide +kernel
theorem d_Ln_windHelp_29 : decode M_Ln_windHelp.2.1 29 = .ok (.iconst 0, 1) := by decide +kernel
theorem d_Ln_windHelp_30 : decode M_Ln_windHelp.2.1 30 = .ok (.istore_n 3, 1) := by decide +kernel
theorem d_Ln_windHelp_31 : decode M_Ln_windHelp.2.1 31 = .ok (.iload_n 3, 1) := by decide +kernel
theorem d_Ln_windHelp_32 : decode M_Ln_windHelp.2.1 32 = .ok (.ifCond .eq 7, 3) := by decide +kernel
theorem d_Ln_windHelp_35 : decode M_Ln_windHelp.2.1 35 = .ok (.iconst 1, 1) := by decide +kernel
theorem d_Ln_windHelp_36 : decode M_Ln_windHelp.2.1 36 = .ok (.goto 4, 3) := by decide +kernel
theorem d_Ln_windHelp_39 : decode M_Ln_windHelp.2.1 39 = .ok (.iconst 0, 1) := by decide +kernel
theorem d_Ln_windHelp_40 : decode M_Ln_windHelp.2.1 40 = .ok (.ireturn, 1) := by decide +kernel
theorem d_Ln_sweetness_0 : decode M_Ln_sweetness.2.1 0 = .ok (.aload_n 0, 1) := by decide +kernel
theorem d_Ln_sweetness_1 : decode M_Ln_sweetness.2.1 1 = .ok (.getfield 27, 3) := by decide +kernel
theorem d_Ln_sweetness_4 : decode M_Ln_sweetness.2.1 4 = .ok (.iload_n 2, 1) := by decide +kernel
theorem d_Ln_sweetness_5 : decode M_Ln_sweetness.2.1 5 = .ok (.iaload, 1) := by decide +kernel
theorem d_Ln_sweetness_6 : decode M_Ln_sweetness.2.1 6 = .ok (.iconst 3, 1) := by decide +kernel
theorem d_Ln_sweetness_7 : decode M_Ln_sweetness.2.1 7 = .ok (.if_icmp .ne 20, 3) := by decide +kernel
theorem d_Ln_sweetness_10 : decode M_Ln_sweetness.2.1 10 = .ok (.aload_n 0, 1) := by decide +kernel
theorem d_Ln_sweetness_11 : decode M_Ln_sweetness.2.1 11 = .ok (.getfield 9, 3) := by decide +kernel
theorem d_Ln_sweetness_14 : decode M_Ln_sweetness.2.1 14 = .ok (.iload_n 1, 1) := by decide +kernel
theorem d_Ln_sweetness_15 : decode M_Ln_sweetness.2.1 15 = .ok (.iaload, 1) := by decide +kernel
theorem d_Ln_sweetness_16 : decode M_Ln_sweetness.2.1 16 = .ok (.aload_n 0, 1) := by decide +kernel
theorem d_Ln_sweetness_17 : decode M_Ln_sweetness.2.1 17 = .ok (.getfield 40, 3) := by decide +kernel
theorem d_Ln_sweetness_20 : decode M_Ln_sweetness.2.1 20 = .ok (.if_icmp .ne 7, 3) := by decide +kernel
theorem d_Ln_sweetness_23 : decode M_Ln_sweetness.2.1 23 = .ok (.iconst 3, 1) := by decide +kernel
theorem d_Ln_sweetness_24 : decode M_Ln_sweetness.2.1 24 = .ok (.goto 4, 3) := by decide +kernel
theorem d_Ln_sweetness_27 : decode M_Ln_sweetness.2.1 27 = .ok (.iconst 0, 1) := by decide +kernel
theorem d_Ln_sweetness_28 : decode M_Ln_sweetness.2.1 28 = .ok (.ireturn, 1) := by decide +kernel
theorem d_Ln_greatestTugOn_0 : decode M_Ln_greatestTugOn.2.1 0 = .ok (.iconst 0, 1) := by decide +kernel
theorem d_Ln_greatestTugOn_1 : decode M_Ln_greatestTugOn.2.1 1 = .ok (.istore_n 2, 1) := by decide +kernel
theorem d_Ln_greatestTugOn_2 : decode M_Ln_greatestTugOn.2.1 2 = .ok (.iconst 0, 1) := by decide +kernel
theorem d_Ln_greatestTugOn_3 : decode M_Ln_greatestTugOn.2.1 3 = .ok (.istore_n 3, 1) := by decide +kernel
theorem d_Ln_greatestTugOn_4 : decode M_Ln_greatestTugOn.2.1 4 = .ok (.iload_n 3, 1) := by decide +kernel
theorem d_Ln_greatestTugOn_5 : decode M_Ln_greatestTugOn.2.1 5 = .ok (.aload_n 0, 1) := by decide +kernel
theorem d_Ln_greatestTugOn_6 : decode M_Ln_greatestTugOn.2.1 6 = .ok (.getfield 30, 3) := by decide +kernel
theorem d_Ln_greatestTugOn_9 : decode M_Ln_greatestTugOn.2.1 9 = .ok (.if_icmp .ge 20, 3) := by decide +kernel
theorem d_Ln_greatestTugOn_12 : decode M_Ln_greatestTugOn.2.1 12 = .ok (.iload_n 2, 1) := by decide +kernel
theorem d_Ln_greatestTugOn_13 : decode M_Ln_greatestTugOn.2.1 13 = .ok (.aload_n 0, 1) := by decide +kernel
theorem d_Ln_greatestTugOn_14 : decode M_Ln_greatestTugOn.2.1 14 = .ok (.iload_n 3, 1) := by decide +kernel
theorem d_Ln_greatestTugOn_15 : decode M_Ln_greatestTugOn.2.1 15 = .ok (.iload_n 1, 1) := by decide +kernel
theorem d_Ln_greatestTugOn_16 : decode M_Ln_greatestTugOn.2.1 16 = .ok (.invokevirtual 75, 3) := by decide +kernel
theorem d_Ln_greatestTugOn_19 : decode M_Ln_greatestTugOn.2.1 19 = .ok (.invokestatic 72, 3) := by decide +kernel
theorem d_Ln_greatestTugOn_22 : decode M_Ln_greatestTugOn.2.1 22 = .ok (.istore_n 2, 1) := by decide +kernel
theorem d_Ln_greatestTugOn_23 : decode M_Ln_greatestTugOn.2.1 23 = .ok (.iinc 3 1, 3) := by decide +kernel
theorem d_Ln_greatestTugOn_26 : decode M_Ln_greatestTugOn.2.1 26 = .ok (.goto (-22), 3) := by decide +kernel
theorem d_Ln_greatestTugOn_29 : decode M_Ln_greatestTugOn.2.1 29 = .ok (.iload_n 2, 1) := by decide +kernel
theorem d_Ln_greatestTugOn_30 : decode M_Ln_greatestTugOn.2.1 30 = .ok (.ireturn, 1) := by decide +kernel
theorem d_Ln_drawersOf_0 : decode M_Ln_drawersOf.2.1 0 = .ok (.iconst 0, 1) := by decide +kernel
theorem d_Ln_drawersOf_1 : decode M_Ln_drawersOf.2.1 1 = .ok (.istore_n 2, 1) := by decide +kernel
theorem d_Ln_drawersOf_2 : decode M_Ln_drawersOf.2.1 2 = .ok (.iconst 0, 1) := by decide +kernel
theorem d_Ln_drawersOf_3 : decode M_Ln_drawersOf.2.1 3 = .ok (.istore_n 3, 1) := by decide +kernel
theorem d_Ln_drawersOf_4 : decode M_Ln_drawersOf.2.1 4 = .ok (.iconst 0, 1) := by decide +kernel
theorem d_Ln_drawersOf_5 : decode M_Ln_drawersOf.2.1 5 = .ok (.istore 4, 2) := by decide +kernel
theorem d_Ln_drawersOf_7 : decode M_Ln_drawersOf.2.1 7 = .ok (.iload 4, 2) := by decide +kernel
theorem d_Ln_drawersOf_9 : decode M_Ln_drawersOf.2.1 9 = .ok (.aload_n 0, 1) := by decide +kernel
theorem d_Ln_drawersOf_10 : decode M_Ln_drawersOf.2.1 10 = .ok (.getfield 30, 3) := by decide +kernel
theorem d_Ln_drawersOf_13 : decode M_Ln_drawersOf.2.1 13 = .ok (.if_icmp .ge 47, 3) := by decide +kernel
theorem d_Ln_drawersOf_16 : decode M_Ln_drawersOf.2.1 16 = .ok (.aload_n 0, 1) := by decide +kernel
theorem d_Ln_drawersOf_17 : decode M_Ln_drawersOf.2.1 17 = .ok (.iload 4, 2) := by decide +kernel
theorem d_Ln_drawersOf_19 : decode M_Ln_drawersOf.2.1 19 = .ok (.iload_n 1, 1) := by decide +kernel
theorem d_Ln_drawersOf_20 : decode M_Ln_drawersOf.2.1 20 = .ok (.invokevirtual 75, 3) := by decide +kernel
theorem d_Ln_drawersOf_23 : decode M_Ln_drawersOf.2.1 23 = .ok (.istore 5, 2) := by decide +kernel
theorem d_Ln_drawersOf_25 : decode M_Ln_drawersOf.2.1 25 = .ok (.iload 5, 2) := by decide +kernel
theorem d_Ln_drawersOf_27 : decode M_Ln_drawersOf.2.1 27 = .ok (.iload_n 2, 1) := by decide +kernel
theorem d_Ln_drawersOf_28 : decode M_Ln_drawersOf.2.1 28 = .ok (.if_icmp .le 8, 3) := by decide +kernel
theorem d_Ln_drawersOf_31 : decode M_Ln_drawersOf.2.1 31 = .ok (.iload 5, 2) := by decide +kernel
theorem d_Ln_drawersOf_33 : decode M_Ln_drawersOf.2.1 33 = .ok (.istore_n 2, 1) := by decide +kernel
theorem d_Ln_drawersOf_34 : decode M_Ln_drawersOf.2.1 34 = .ok (.iconst 0, 1) := by decide +kernel
theorem d_Ln_drawersOf_35 : decode M_Ln_drawersOf.2.1 35 = .ok (.istore_n 3, 1) := by decide +kernel
theorem d_Ln_drawersOf_36 : decode M_Ln_drawersOf.2.1 36 = .ok (.iload 5, 2) := by decide +kernel
theorem d_Ln_drawersOf_38 : decode M_Ln_drawersOf.2.1 38 = .ok (.ifCond .le 16, 3) := by decide +kernel
theorem d_Ln_drawersOf_41 : decode M_Ln_drawersOf.2.1 41 = .ok (.iload 5, 2) := by decide +kernel
theorem d_Ln_drawersOf_43 : decode M_Ln_drawersOf.2.1 43 = .ok (.iload_n 2, 1) := by decide +kernel
theorem d_Ln_drawersOf_44 : decode M_Ln_drawersOf.2.1 44 = .ok (.if_icmp .ne 10, 3) := by decide +kernel
theorem d_Ln_drawersOf_47 : decode M_Ln_drawersOf.2.1 47 = .ok (.iload_n 3, 1) := by decide +kernel
theorem d_Ln_drawersOf_48 : decode M_Ln_drawersOf.2.1 48 = .ok (.iconst 1, 1) := by decide +kernel
theorem d_Ln_drawersOf_49 : decode M_Ln_drawersOf.2.1 49 = .ok (.iload 4, 2) := by decide +kernel
theorem d_Ln_drawersOf_51 : decode M_Ln_drawersOf.2.1 51 = .ok (.ishl, 1) := by decide +kernel
theorem d_Ln_drawersOf_52 : decode M_Ln_drawersOf.2.1 52 = .ok (.ior, 1) := by decide +kernel
theorem d_Ln_drawersOf_53 : decode M_Ln_drawersOf.2.1 53 = .ok (.istore_n 3, 1) := by decide +kernel
theorem d_Ln_drawersOf_54 : decode M_Ln_drawersOf.2.1 54 = .ok (.iinc 4 1, 3) := by decide +kernel
theorem d_Ln_drawersOf_57 : decode M_Ln_drawersOf.2.1 57 = .ok (.goto (-50), 3) := by decide +kernel
theorem d_Ln_drawersOf_60 : decode M_Ln_drawersOf.2.1 60 = .ok (.iload_n 3, 1) := by decide +kernel
theorem d_Ln_drawersOf_61 : decode M_Ln_drawersOf.2.1 61 = .ok (.ireturn, 1) := by decide +kernel
theorem d_Ln_mothsDrawnBy_0 : decode M_Ln_mothsDrawnBy.2.1 0 = .ok (.iconst 0, 1) := by decide +kernel
theorem d_Ln_mothsDrawnBy_1 : decode M_Ln_mothsDrawnBy.2.1 1 = .ok (.istore_n 2, 1) := by decide +kernel
theorem d_Ln_mothsDrawnBy_2 : decode M_Ln_mothsDrawnBy.2.1 2 = .ok (.iconst 0, 1) := by decide +kernel
theorem d_Ln_mothsDrawnBy_3 : decode M_Ln_mothsDrawnBy.2.1 3 = .ok (.istore_n 3, 1) := by decide +kernel
theorem d_Ln_mothsDrawnBy_4 : decode M_Ln_mothsDrawnBy.2.1 4 = .ok (.iload_n 3, 1) := by decide +kernel
theorem d_Ln_mothsDrawnBy_5 : decode M_Ln_mothsDrawnBy.2.1 5 = .ok (.aload_n 0, 1) := by decide +kernel
theorem d_Ln_mothsDrawnBy_6 : decode M_Ln_mothsDrawnBy.2.1 6 = .ok (.getfield 34, 3) := by decide +kernel
theorem d_Ln_mothsDrawnBy_9 : decode M_Ln_mothsDrawnBy.2.1 9 = .ok (.if_icmp .ge 28, 3) := by decide +kernel
theorem d_Ln_mothsDrawnBy_12 : decode M_Ln_mothsDrawnBy.2.1 12 = .ok (.aload_n 0, 1) := by decide +kernel
theorem d_Ln_mothsDrawnBy_13 : decode M_Ln_mothsDrawnBy.2.1 13 = .ok (.iload_n 3, 1) := by decide +kernel
theorem d_Ln_mothsDrawnBy_14 : decode M_Ln_mothsDrawnBy.2.1 14 = .ok (.invokevirtual 78, 3) := by decide +kernel
theorem d_Ln_mothsDrawnBy_17 : decode M_Ln_mothsDrawnBy.2.1 17 = .ok (.iload_n 1, 1) := by decide +kernel
theorem d_Ln_mothsDrawnBy_18 : decode M_Ln_mothsDrawnBy.2.1 18 = .ok (.ishr, 1) := by decide +kernel
theorem d_Ln_mothsDrawnBy_19 : decode M_Ln_mothsDrawnBy.2.1 19 = .ok (.iconst 1, 1) := by decide +kernel
theorem d_Ln_mothsDrawnBy_20 : decode M_Ln_mothsDrawnBy.2.1 20 = .ok (.iand, 1) := by decide +kernel
theorem d_Ln_mothsDrawnBy_21 : decode M_Ln_mothsDrawnBy.2.1 21 = .ok (.iconst 1, 1) := by decide +kernel
theorem d_Ln_mothsDrawnBy_22 : decode M_Ln_mothsDrawnBy.2.1 22 = .ok (.if_icmp .ne 9, 3) := by decide +kernel
theorem d_Ln_mothsDrawnBy_25 : decode M_Ln_mothsDrawnBy.2.1 25 = .ok (.iload_n 2, 1) := by decide +kernel
theorem d_Ln_mothsDrawnBy_26 : decode M_Ln_mothsDrawnBy.2.1 26 = .ok (.iconst 1, 1) := by decide +kernel
theorem d_Ln_mothsDrawnBy_27 : decode M_Ln_mothsDrawnBy.2.1 27 = .ok (.iload_n 3, 1) := by decide +kernel
theorem d_Ln_mothsDrawnBy_28 : decode M_Ln_mothsDrawnBy.2.1 28 = .ok (.ishl, 1) := by decide +kernel
theorem d_Ln_mothsDrawnBy_29 : decode M_Ln_mothsDrawnBy.2.1 29 = .ok (.ior, 1) := by decide +kernel
theorem d_Ln_mothsDrawnBy_30 : decode M_Ln_mothsDrawnBy.2.1 30 = .ok (.istore_n 2, 1) := by decide +kernel
theorem d_Ln_mothsDrawnBy_31 : decode M_Ln_mothsDrawnBy.2.1 31 = .ok (.iinc 3 1, 3) := by decide +kernel
theorem d_Ln_mothsDrawnBy_34 : decode M_Ln_mothsDrawnBy.2.1 34 = .ok (.goto (-30), 3) := by decide +kernel
theorem d_Ln_mothsDrawnBy_37 : decode M_Ln_mothsDrawnBy.2.1 37 = .ok (.iload_n 2, 1) := by decide +kernel
theorem d_Ln_mothsDrawnBy_38 : decode M_Ln_mothsDrawnBy.2.1 38 = .ok (.ireturn, 1) := by decide +kernel
theorem d_Ln_taxOf_0 : decode M_Ln_taxOf.2.1 0 = .ok (.aload_n 0, 1) := by decide +kernel
theorem d_Ln_taxOf_1 : decode M_Ln_taxOf.2.1 1 = .ok (.getfield 27, 3) := by decide +kernel
theorem d_Ln_taxOf_4 : decode M_Ln_taxOf.2.1 4 = .ok (.iload_n 1, 1) := by decide +kernel
theorem d_Ln_taxOf_5 : decode M_Ln_taxOf.2.1 5 = .ok (.iaload, 1) := by decide +kernel
theorem d_Ln_taxOf_6 : decode M_Ln_taxOf.2.1 6 = .ok (.iconst 2, 1) := by decide +kernel
theorem d_Ln_taxOf_7 : decode M_Ln_taxOf.2.1 7 = .ok (.if_icmp .ne 5, 3) := by decide +kernel
theorem d_Ln_taxOf_10 : decode M_Ln_taxOf.2.1 10 = .ok (.iconst 0, 1) := by decide +kernel
theorem d_Ln_taxOf_11 : decode M_Ln_taxOf.2.1 11 = .ok (.ireturn, 1) := by decide +kernel
theorem d_Ln_taxOf_12 : decode M_Ln_taxOf.2.1 12 = .ok (.aload_n 0, 1) := by decide +kernel
theorem d_Ln_taxOf_13 : decode M_Ln_taxOf.2.1 13 = .ok (.getfield 27, 3) := by decide +kernel
theorem d_Ln_taxOf_16 : decode M_Ln_taxOf.2.1 16 = .ok (.iload_n 1, 1) := by decide +kernel
theorem d_Ln_taxOf_17 : decode M_Ln_taxOf.2.1 17 = .ok (.iaload, 1) := by decide +kernel
theorem d_Ln_taxOf_18 : decode M_Ln_taxOf.2.1 18 = .ok (.iconst 1, 1) := by decide +kernel
theorem d_Ln_taxOf_19 : decode M_Ln_taxOf.2.1 19 = .ok (.if_icmp .ne 8, 3) := by decide +kernel
theorem d_Ln_taxOf_22 : decode M_Ln_taxOf.2.1 22 = .ok (.bipush 18, 2) := by decide +kernel
theorem d_Ln_taxOf_24 : decode M_Ln_taxOf.2.1 24 = .ok (.goto 5, 3) := by decide +kernel
theorem d_Ln_taxOf_27 : decode M_Ln_taxOf.2.1 27 = .ok (.bipush 6, 2) := by decide +kernel
theorem d_Ln_taxOf_29 : decode M_Ln_taxOf.2.1 29 = .ok (.ireturn, 1) := by decide +kernel
theorem d_Ln_reckon_0 : decode M_Ln_reckon.2.1 0 = .ok (.iconst 0, 1) := by decide +kernel
theorem d_Ln_reckon_1 : decode M_Ln_reckon.2.1 1 = .ok (.istore_n 1, 1) := by decide +kernel
theorem d_Ln_reckon_2 : decode M_Ln_reckon.2.1 2 = .ok (.iload_n 1, 1) := by decide +kernel
theorem d_Ln_reckon_3 : decode M_Ln_reckon.2.1 3 = .ok (.aload_n 0, 1) := by decide +kernel
theorem d_Ln_reckon_4 : decode M_Ln_reckon.2.1 4 = .ok (.getfield 30, 3) := by decide +kernel
theorem d_Ln_reckon_7 : decode M_Ln_reckon.2.1 7 = .ok (.if_icmp .ge 16, 3) := by decide +kernel
theorem d_Ln_reckon_10 : decode M_Ln_reckon.2.1 10 = .ok (.aload_n 0, 1) := by decide +kernel
theorem d_Ln_reckon_11 : decode M_Ln_reckon.2.1 11 = .ok (.getfield 46, 3) := by decide +kernel
theorem d_Ln_reckon_14 : decode M_Ln_reckon.2.1 14 = .ok (.iload_n 1, 1) := by decide +kernel
theorem d_Ln_reckon_15 : decode M_Ln_reckon.2.1 15 = .ok (.iconst 0, 1) := by decide +kernel
theorem d_Ln_reckon_16 : decode M_Ln_reckon.2.1 16 = .ok (.iastore, 1) := by decide +kernel
theorem d_Ln_reckon_17 : decode M_Ln_reckon.2.1 17 = .ok (.iinc 1 1, 3) := by decide +kernel
theorem d_Ln_reckon_20 : decode M_Ln_reckon.2.1 20 = .ok (.goto (-18), 3) := by decide +kernel
theorem d_Ln_reckon_23 : decode M_Ln_reckon.2.1 23 = .ok (.iconst 0, 1) := by decide +kernel
theorem d_Ln_reckon_24 : decode M_Ln_reckon.2.1 24 = .ok (.istore_n 1, 1) := by decide +kernel
theorem d_Ln_reckon_25 : decode M_Ln_reckon.2.1 25 = .ok (.iload_n 1, 1) := by decide +kernel
theorem d_Ln_reckon_26 : decode M_Ln_reckon.2.1 26 = .ok (.aload_n 0, 1) := by decide +kernel
theorem d_Ln_reckon_27 : decode M_Ln_reckon.2.1 27 = .ok (.getfield 34, 3) := by decide +kernel
theorem d_Ln_reckon_30 : decode M_Ln_reckon.2.1 30 = .ok (.if_icmp .ge 23, 3) := by decide +kernel
theorem d_Ln_reckon_33 : decode M_Ln_reckon.2.1 33 = .ok (.aload_n 0, 1) := by decide +kernel
theorem d_Ln_reckon_34 : decode M_Ln_reckon.2.1 34 = .ok (.aload_n 0, 1) := by decide +kernel
theorem d_Ln_reckon_35 : decode M_Ln_reckon.2.1 35 = .ok (.iload_n 1, 1) := by decide +kernel
theorem d_Ln_reckon_36 : decode M_Ln_reckon.2.1 36 = .ok (.invokevirtual 78, 3) := by decide +kernel
theorem d_Ln_reckon_39 : decode M_Ln_reckon.2.1 39 = .ok (.aload_n 0, 1) := by decide +kernel
theorem d_Ln_reckon_40 : decode M_Ln_reckon.2.1 40 = .ok (.iload_n 1, 1) := by decide +kernel
theorem d_Ln_reckon_41 : decode M_Ln_reckon.2.1 41 = .ok (.invokevirtual 81, 3) := by decide +kernel
theorem d_Ln_reckon_44 : decode M_Ln_reckon.2.1 44 = .ok (.invokevirtual 84, 3) := by decide +kernel
theorem d_Ln_reckon_47 : decode M_Ln_reckon.2.1 47 = .ok (.iinc 1 1, 3) := by decide +kernel
theorem d_Ln_reckon_50 : decode M_Ln_reckon.2.1 50 = .ok (.goto (-25), 3) := by decide +kernel
theorem d_Ln_reckon_53 : decode M_Ln_reckon.2.1 53 = .ok (.iconst 0, 1) := by decide +kernel
theorem d_Ln_reckon_54 : decode M_Ln_reckon.2.1 54 = .ok (.istore_n 1, 1) := by decide +kernel
theorem d_Ln_reckon_55 : decode M_Ln_reckon.2.1 55 = .ok (.iload_n 1, 1) := by decide +kernel
theorem d_Ln_reckon_56 : decode M_Ln_reckon.2.1 56 = .ok (.aload_n 0, 1) := by decide +kernel
theorem d_Ln_reckon_57 : decode M_Ln_reckon.2.1 57 = .ok (.getfield 30, 3) := by decide +kernel
theorem d_Ln_reckon_60 : decode M_Ln_reckon.2.1 60 = .ok (.if_icmp .ge 29, 3) := by decide +kernel
theorem d_Ln_reckon_63 : decode M_Ln_reckon.2.1 63 = .ok (.aload_n 0, 1) := by decide +kernel
theorem d_Ln_reckon_64 : decode M_Ln_reckon.2.1 64 = .ok (.getfield 18, 3) := by decide +kernel
theorem d_Ln_reckon_67 : decode M_Ln_reckon.2.1 67 = .ok (.iload_n 1, 1) := by decide +kernel
theorem d_Ln_reckon_68 : decode M_Ln_reckon.2.1 68 = .ok (.iaload, 1) := by decide +kernel
theorem d_Ln_reckon_69 : decode M_Ln_reckon.2.1 69 = .ok (.iconst 2, 1) := by decide +kernel
theorem d_Ln_reckon_70 : decode M_Ln_reckon.2.1 70 = .ok (.if_icmp .ne 13, 3) := by decide +kernel
theorem d_Ln_reckon_73 : decode M_Ln_reckon.2.1 73 = .ok (.aload_n 0, 1) := by decide +kernel
theorem d_Ln_reckon_74 : decode M_Ln_reckon.2.1 74 = .ok (.getfield 46, 3) := by decide +kernel
theorem d_Ln_reckon_77 : decode M_Ln_reckon.2.1 77 = .ok (.iload_n 1, 1) := by decide +kernel
theorem d_Ln_reckon_78 : decode M_Ln_reckon.2.1 78 = .ok (.dup2, 1) := by decide +kernel
theorem d_Ln_reckon_79 : decode M_Ln_reckon.2.1 79 = .ok (.iaload, 1) := by decide +kernel
theorem d_Ln_reckon_80 : decode M_Ln_reckon.2.1 80 = .ok (.iconst 2, 1) := by decide +kernel
theorem d_Ln_reckon_81 : decode M_Ln_reckon.2.1 81 = .ok (.idiv, 1) := by decide +kernel
theorem d_Ln_reckon_82 : decode M_Ln_reckon.2.1 82 = .ok (.iastore, 1) := by decide +kernel
theorem d_Ln_reckon_83 : decode M_Ln_reckon.2.1 83 = .ok (.iinc 1 1, 3) := by decide +kernel
theorem d_Ln_reckon_86 : decode M_Ln_reckon.2.1 86 = .ok (.goto (-31), 3) := by decide +kernel
theorem d_Ln_reckon_89 : decode M_Ln_reckon.2.1 89 = .ok (.return_, 1) := by decide +kernel
theorem d_Ln_charge_0 : decode M_Ln_charge.2.1 0 = .ok (.iload_n 1, 1) := by decide +kernel
theorem d_Ln_charge_1 : decode M_Ln_charge.2.1 1 = .ok (.invokestatic 88, 3) := by decide +kernel
theorem d_Ln_charge_4 : decode M_Ln_charge.2.1 4 = .ok (.istore_n 3, 1) := by decide +kernel
theorem d_Ln_charge_5 : decode M_Ln_charge.2.1 5 = .ok (.iload_n 3, 1) := by decide +kernel
theorem d_Ln_charge_6 : decode M_Ln_charge.2.1 6 = .ok (.iconst 1, 1) := by decide +kernel
theorem d_Ln_charge_7 : decode M_Ln_charge.2.1 7 = .ok (.if_icmp .ge 4, 3) := by decide +kernel
theorem d_Ln_charge_10 : decode M_Ln_charge.2.1 10 = .ok (.return_, 1) := by decide +kernel
theorem d_Ln_charge_11 : decode M_Ln_charge.2.1 11 = .ok (.iconst 0, 1) := by decide +kernel
theorem d_Ln_charge_12 : decode M_Ln_charge.2.1 12 = .ok (.istore 4, 2) := by decide +kernel
theorem d_Ln_charge_14 : decode M_Ln_charge.2.1 14 = .ok (.iload 4, 2) := by decide +kernel
theorem d_Ln_charge_16 : decode M_Ln_charge.2.1 16 = .ok (.aload_n 0, 1) := by decide +kernel
theorem d_Ln_charge_17 : decode M_Ln_charge.2.1 17 = .ok (.getfield 30, 3) := by decide +kernel
theorem d_Ln_charge_20 : decode M_Ln_charge.2.1 20 = .ok (.if_icmp .ge 32, 3) := by decide +kernel
theorem d_Ln_charge_23 : decode M_Ln_charge.2.1 23 = .ok (.iload_n 1, 1) := by decide +kernel
theorem d_Ln_charge_24 : decode M_Ln_charge.2.1 24 = .ok (.iload 4, 2) := by decide +kernel
theorem d_Ln_charge_26 : decode M_Ln_charge.2.1 26 = .ok (.ishr, 1) := by decide +kernel
theorem d_Ln_charge_27 : decode M_Ln_charge.2.1 27 = .ok (.iconst 1, 1) := by decide +kernel
theorem d_Ln_charge_28 : decode M_Ln_charge.2.1 28 = .ok (.iand, 1) := by decide +kernel
theorem d_Ln_charge_29 : decode M_Ln_charge.2.1 29 = .ok (.iconst 1, 1) := by decide +kernel
theorem d_Ln_charge_30 : decode M_Ln_charge.2.1 30 = .ok (.if_icmp .ne 16, 3) := by decide +kernel
theorem d_Ln_charge_33 : decode M_Ln_charge.2.1 33 = .ok (.aload_n 0, 1) := by decide +kernel
theorem d_Ln_charge_34 : decode M_Ln_charge.2.1 34 = .ok (.getfield 46, 3) := by decide +kernel
theorem d_Ln_charge_37 : decode M_Ln_charge.2.1 37 = .ok (.iload 4, 2) := by decide +kernel
theorem d_Ln_charge_39 : decode M_Ln_charge.2.1 39 = .ok (.dup2, 1) := by decide +kernel
theorem d_Ln_charge_40 : decode M_Ln_charge.2.1 40 = .ok (.iaload, 1) := by decide +kernel
theorem d_Ln_charge_41 : decode M_Ln_charge.2.1 41 = .ok (.iload_n 2, 1) := by decide +kernel
theorem d_Ln_charge_42 : decode M_Ln_charge.2.1 42 = .ok (.iload_n 3, 1) := by decide +kernel
theorem d_Ln_charge_43 : decode M_Ln_charge.2.1 43 = .ok (.idiv, 1) := by decide +kernel
theorem d_Ln_charge_44 : decode M_Ln_charge.2.1 44 = .ok (.iadd, 1) := by decide +kernel
theorem d_Ln_charge_45 : decode M_Ln_charge.2.1 45 = .ok (.iastore, 1) := by decide +kernel
theorem d_Ln_charge_46 : decode M_Ln_charge.2.1 46 = .ok (.iinc 4 1, 3) := by decide +kernel
theorem d_Ln_charge_49 : decode M_Ln_charge.2.1 49 = .ok (.goto (-35), 3) := by decide +kernel
theorem d_Ln_charge_52 : decode M_Ln_charge.2.1 52 = .ok (.return_, 1) := by decide +kernel
theorem d_Ln_owedBy_0 : decode M_Ln_owedBy.2.1 0 = .ok (.aload_n 0, 1) := by decide +kernel
theorem d_Ln_owedBy_1 : decode M_Ln_owedBy.2.1 1 = .ok (.iload_n 1, 1) := by decide +kernel
theorem d_Ln_owedBy_2 : decode M_Ln_owedBy.2.1 2 = .ok (.invokevirtual 49, 3) := by decide +kernel
theorem d_Ln_owedBy_5 : decode M_Ln_owedBy.2.1 5 = .ok (.ifCond .ne 5, 3) := by decide +kernel
theorem d_Ln_owedBy_8 : decode M_Ln_owedBy.2.1 8 = .ok (.iconst 0, 1) := by decide +kernel
theorem d_Ln_owedBy_9 : decode M_Ln_owedBy.2.1 9 = .ok (.ireturn, 1) := by decide +kernel
theorem d_Ln_owedBy_10 : decode M_Ln_owedBy.2.1 10 = .ok (.aload_n 0, 1) := by decide +kernel
theorem d_Ln_owedBy_11 : decode M_Ln_owedBy.2.1 11 = .ok (.invokevirtual 93, 3) := by decide +kernel
theorem d_Ln_owedBy_14 : decode M_Ln_owedBy.2.1 14 = .ok (.aload_n 0, 1) := by decide +kernel
theorem d_Ln_owedBy_15 : decode M_Ln_owedBy.2.1 15 = .ok (.getfield 46, 3) := by decide +kernel
theorem d_Ln_owedBy_18 : decode M_Ln_owedBy.2.1 18 = .ok (.iload_n 1, 1) := by decide +kernel
theorem d_Ln_owedBy_19 : decode M_Ln_owedBy.2.1 19 = .ok (.iaload, 1) := by decide +kernel
theorem d_Ln_owedBy_20 : decode M_Ln_owedBy.2.1 20 = .ok (.ireturn, 1) := by decide +kernel
theorem d_Ln_owedByAll_0 : decode M_Ln_owedByAll.2.1 0 = .ok (.aload_n 0, 1) := by decide +kernel
theorem d_Ln_owedByAll_1 : decode M_Ln_owedByAll.2.1 1 = .ok (.invokevirtual 93, 3) := by decide +kernel
theorem d_Ln_owedByAll_4 : decode M_Ln_owedByAll.2.1 4 = .ok (.iconst 0, 1) := by decide +kernel
theorem d_Ln_owedByAll_5 : decode M_Ln_owedByAll.2.1 5 = .ok (.istore_n 1, 1) := by decide +kernel
theorem d_Ln_owedByAll_6 : decode M_Ln_owedByAll.2.1 6 = .ok (.iconst 0, 1) := by decide +kernel
theorem d_Ln_owedByAll_7 : decode M_Ln_owedByAll.2.1 7 = .ok (.istore_n 2, 1) := by decide +kernel
theorem d_Ln_owedByAll_8 : decode M_Ln_owedByAll.2.1 8 = .ok (.iload_n 2, 1) := by decide +kernel
theorem d_Ln_owedByAll_9 : decode M_Ln_owedByAll.2.1 9 = .ok (.aload_n 0, 1) := by decide +kernel
theorem d_Ln_owedByAll_10 : decode M_Ln_owedByAll.2.1 10 = .ok (.getfield 30, 3) := by decide +kernel
theorem d_Ln_owedByAll_13 : decode M_Ln_owedByAll.2.1 13 = .ok (.if_icmp .ge 18, 3) := by decide +kernel
theorem d_Ln_owedByAll_16 : decode M_Ln_owedByAll.2.1 16 = .ok (.iload_n 1, 1) := by decide +kernel
theorem d_Ln_owedByAll_17 : decode M_Ln_owedByAll.2.1 17 = .ok (.aload_n 0, 1) := by decide +kernel
theorem d_Ln_owedByAll_18 : decode M_Ln_owedByAll.2.1 18 = .ok (.getfield 46, 3) := by decide +kernel
theorem d_Ln_owedByAll_21 : decode M_Ln_owedByAll.2.1 21 = .ok (.iload_n 2, 1) := by decide +kernel
theorem d_Ln_owedByAll_22 : decode M_Ln_owedByAll.2.1 22 = .ok (.iaload, 1) := by decide +kernel
theorem d_Ln_owedByAll_23 : decode M_Ln_owedByAll.2.1 23 = .ok (.iadd, 1) := by decide +kernel
theorem d_Ln_owedByAll_24 : decode M_Ln_owedByAll.2.1 24 = .ok (.istore_n 1, 1) := by decide +kernel
theorem d_Ln_owedByAll_25 : decode M_Ln_owedByAll.2.1 25 = .ok (.iinc 2 1, 3) := by decide +kernel
theorem d_Ln_owedByAll_28 : decode M_Ln_owedByAll.2.1 28 = .ok (.goto (-20), 3) := by decide +kernel
theorem d_Ln_owedByAll_31 : decode M_Ln_owedByAll.2.1 31 = .ok (.iload_n 1, 1) := by decide +kernel
theorem d_Ln_owedByAll_32 : decode M_Ln_owedByAll.2.1 32 = .ok (.ireturn, 1) := by decide +kernel
theorem d_Ln_paidByAll_0 : decode M_Ln_paidByAll.2.1 0 = .ok (.iconst 0, 1) := by decide +kernel
theorem d_Ln_paidByAll_1 : decode M_Ln_paidByAll.2.1 1 = .ok (.istore_n 1, 1) := by decide +kernel
theorem d_Ln_paidByAll_2 : decode M_Ln_paidByAll.2.1 2 = .ok (.iconst 0, 1) := by decide +kernel
theorem d_Ln_paidByAll_3 : decode M_Ln_paidByAll.2.1 3 = .ok (.istore_n 2, 1) := by decide +kernel
theorem d_Ln_paidByAll_4 : decode M_Ln_paidByAll.2.1 4 = .ok (.iload_n 2, 1) := by decide +kernel
theorem d_Ln_paidByAll_5 : decode M_Ln_paidByAll.2.1 5 = .ok (.aload_n 0, 1) := by decide +kernel
theorem d_Ln_paidByAll_6 : decode M_Ln_paidByAll.2.1 6 = .ok (.getfield 30, 3) := by decide +kernel
theorem d_Ln_paidByAll_9 : decode M_Ln_paidByAll.2.1 9 = .ok (.if_icmp .ge 18, 3) := by decide +kernel
theorem d_Ln_paidByAll_12 : decode M_Ln_paidByAll.2.1 12 = .ok (.iload_n 1, 1) := by decide +kernel
theorem d_Ln_paidByAll_13 : decode M_Ln_paidByAll.2.1 13 = .ok (.aload_n 0, 1) := by decide +kernel
theorem d_Ln_paidByAll_14 : decode M_Ln_paidByAll.2.1 14 = .ok (.getfield 21, 3) := by decide +kernel
theorem d_Ln_paidByAll_17 : decode M_Ln_paidByAll.2.1 17 = .ok (.iload_n 2, 1) := by decide +kernel
theorem d_Ln_paidByAll_18 : decode M_Ln_paidByAll.2.1 18 = .ok (.iaload, 1) := by decide +kernel
theorem d_Ln_paidByAll_19 : decode M_Ln_paidByAll.2.1 19 = .ok (.iadd, 1) := by decide +kernel
theorem d_Ln_paidByAll_20 : decode M_Ln_paidByAll.2.1 20 = .ok (.istore_n 1, 1) := by decide +kernel
theorem d_Ln_paidByAll_21 : decode M_Ln_paidByAll.2.1 21 = .ok (.iinc 2 1, 3) := by decide +kernel
theorem d_Ln_paidByAll_24 : decode M_Ln_paidByAll.2.1 24 = .ok (.goto (-20), 3) := by decide +kernel
theorem d_Ln_paidByAll_27 : decode M_Ln_paidByAll.2.1 27 = .ok (.iload_n 1, 1) := by decide +kernel
theorem d_Ln_paidByAll_28 : decode M_Ln_paidByAll.2.1 28 = .ok (.ireturn, 1) := by decide +kernel
theorem d_Ln_reads_0 : decode M_Ln_reads.2.1 0 = .ok (.aload_n 0, 1) := by decide +kernel
theorem d_Ln_reads_1 : decode M_Ln_reads.2.1 1 = .ok (.iload_n 1, 1) := by decide +kernel
theorem d_Ln_reads_2 : decode M_Ln_reads.2.1 2 = .ok (.invokevirtual 49, 3) := by decide +kernel
theorem d_Ln_reads_5 : decode M_Ln_reads.2.1 5 = .ok (.ifCond .ne 5, 3) := by decide +kernel
theorem d_Ln_reads_8 : decode M_Ln_reads.2.1 8 = .ok (.iconst 0, 1) := by decide +kernel
theorem d_Ln_reads_9 : decode M_Ln_reads.2.1 9 = .ok (.ireturn, 1) := by decide +kernel
theorem d_Ln_reads_10 : decode M_Ln_reads.2.1 10 = .ok (.aload_n 0, 1) := by decide +kernel
theorem d_Ln_reads_11 : decode M_Ln_reads.2.1 11 = .ok (.getfield 15, 3) := by decide +kernel
theorem d_Ln_reads_14 : decode M_Ln_reads.2.1 14 = .ok (.iload_n 1, 1) := by decide +kernel
theorem d_Ln_reads_15 : decode M_Ln_reads.2.1 15 = .ok (.iaload, 1) := by decide +kernel
theorem d_Ln_reads_16 : decode M_Ln_reads.2.1 16 = .ok (.iconst 3, 1) := by decide +kernel
theorem d_Ln_reads_17 : decode M_Ln_reads.2.1 17 = .ok (.if_icmp .lt 5, 3) := by decide +kernel
theorem d_Ln_reads_20 : decode M_Ln_reads.2.1 20 = .ok (.iconst 1, 1) := by decide +kernel
theorem d_Ln_reads_21 : decode M_Ln_reads.2.1 21 = .ok (.ireturn, 1) := by decide +kernel
theorem d_Ln_reads_22 : decode M_Ln_reads.2.1 22 = .ok (.iconst 0, 1) := by decide +kernel
theorem d_Ln_reads_23 : decode M_Ln_reads.2.1 23 = .ok (.istore_n 2, 1) := by decide +kernel
theorem d_Ln_reads_24 : decode M_Ln_reads.2.1 24 = .ok (.iload_n 2, 1) := by decide +kernel
theorem d_Ln_reads_25 : decode M_Ln_reads.2.1 25 = .ok (.aload_n 0, 1) := by decide +kernel
theorem d_Ln_reads_26 : decode M_Ln_reads.2.1 26 = .ok (.getfield 30, 3) := by decide +kernel
theorem d_Ln_reads_29 : decode M_Ln_reads.2.1 29 = .ok (.if_icmp .ge 42, 3) := by decide +kernel
theorem d_Ln_reads_32 : decode M_Ln_reads.2.1 32 = .ok (.aload_n 0, 1) := by decide +kernel
theorem d_Ln_reads_33 : decode M_Ln_reads.2.1 33 = .ok (.getfield 15, 3) := by decide +kernel
theorem d_Ln_reads_36 : decode M_Ln_reads.2.1 36 = .ok (.iload_n 2, 1) := by decide +kernel
theorem d_Ln_reads_37 : decode M_Ln_reads.2.1 37 = .ok (.iaload, 1) := by decide +kernel
theorem d_Ln_reads_38 : decode M_Ln_reads.2.1 38 = .ok (.bipush 6, 2) := by decide +kernel
theorem d_Ln_reads_40 : decode M_Ln_reads.2.1 40 = .ok (.if_icmp .lt 25, 3) := by decide +kernel
theorem d_Ln_reads_43 : decode M_Ln_reads.2.1 43 = .ok (.aload_n 0, 1) := by decide +kernel
theorem d_Ln_reads_44 : decode M_Ln_reads.2.1 44 = .ok (.getfield 9, 3) := by decide +kernel
theorem d_Ln_reads_47 : decode M_Ln_reads.2.1 47 = .ok (.iload_n 2, 1) := by decide +kernel
theorem d_Ln_reads_48 : decode M_Ln_reads.2.1 48 = .ok (.iaload, 1) := by decide +kernel
theorem d_Ln_reads_49 : decode M_Ln_reads.2.1 49 = .ok (.aload_n 0, 1) := by decide +kernel
theorem d_Ln_reads_50 : decode M_Ln_reads.2.1 50 = .ok (.getfield 9, 3) := by decide +kernel
theorem d_Ln_reads_53 : decode M_Ln_reads.2.1 53 = .ok (.iload_n 1, 1) := by decide +kernel
theorem d_Ln_reads_54 : decode M_Ln_reads.2.1 54 = .ok (.iaload, 1) := by decide +kernel
theorem d_Ln_reads_55 : decode M_Ln_reads.2.1 55 = .ok (.isub, 1) := by decide +kernel
theorem d_Ln_reads_56 : decode M_Ln_reads.2.1 56 = .ok (.invokestatic 56, 3) := by decide +kernel
theorem d_Ln_reads_59 : decode M_Ln_reads.2.1 59 = .ok (.iconst 1, 1) := by decide +kernel
theorem d_Ln_reads_60 : decode M_Ln_reads.2.1 60 = .ok (.if_icmp .gt 5, 3) := by decide +kernel
theorem d_Ln_reads_63 : decode M_Ln_reads.2.1 63 = .ok (.iconst 1, 1) := by decide +kernel
theorem d_Ln_reads_64 : decode M_Ln_reads.2.1 64 = .ok (.ireturn, 1) := by decide +kernel
theorem d_Ln_reads_65 : decode M_Ln_reads.2.1 65 = .ok (.iinc 2 1, 3) := by decide +kernel
theorem d_Ln_reads_68 : decode M_Ln_reads.2.1 68 = .ok (.goto (-44), 3) := by decide +kernel
theorem d_Ln_reads_71 : decode M_Ln_reads.2.1 71 = .ok (.iconst 0, 1) := by decide +kernel
theorem d_Ln_reads_72 : decode M_Ln_reads.2.1 72 = .ok (.ireturn, 1) := by decide +kernel
theorem d_Ln_readers_0 : decode M_Ln_readers.2.1 0 = .ok (.iconst 0, 1) := by decide +kernel
theorem d_Ln_readers_1 : decode M_Ln_readers.2.1 1 = .ok (.istore_n 1, 1) := by decide +kernel
theorem d_Ln_readers_2 : decode M_Ln_readers.2.1 2 = .ok (.iconst 0, 1) := by decide +kernel
theorem d_Ln_readers_3 : decode M_Ln_readers.2.1 3 = .ok (.istore_n 2, 1) := by decide +kernel
theorem d_Ln_readers_4 : decode M_Ln_readers.2.1 4 = .ok (.iload_n 2, 1) := by decide +kernel
theorem d_Ln_readers_5 : decode M_Ln_readers.2.1 5 = .ok (.aload_n 0, 1) := by decide +kernel
theorem d_Ln_readers_6 : decode M_Ln_readers.2.1 6 = .ok (.getfield 30, 3) := by decide +kernel
theorem d_Ln_readers_9 : decode M_Ln_readers.2.1 9 = .ok (.if_icmp .ge 23, 3) := by decide +kernel
theorem d_Ln_readers_12 : decode M_Ln_readers.2.1 12 = .ok (.aload_n 0, 1) := by decide +kernel
theorem d_Ln_readers_13 : decode M_Ln_readers.2.1 13 = .ok (.iload_n 2, 1) := by decide +kernel
theorem d_Ln_readers_14 : decode M_Ln_readers.2.1 14 = .ok (.invokevirtual 96, 3) := by decide +kernel
theorem d_Ln_readers_17 : decode M_Ln_readers.2.1 17 = .ok (.ifCond .eq 9, 3) := by decide +kernel
theorem d_Ln_readers_20 : decode M_Ln_readers.2.1 20 = .ok (.iload_n 1, 1) := by decide +kernel
theorem d_Ln_readers_21 : decode M_Ln_readers.2.1 21 = .ok (.iconst 1, 1) := by decide +kernel
theorem d_Ln_readers_22 : decode M_Ln_readers.2.1 22 = .ok (.iload_n 2, 1) := by decide +kernel
theorem d_Ln_readers_23 : decode M_Ln_readers.2.1 23 = .ok (.ishl, 1) := by decide +kernel
theorem d_Ln_readers_24 : decode M_Ln_readers.2.1 24 = .ok (.ior, 1) := by decide +kernel
theorem d_Ln_readers_25 : decode M_Ln_readers.2.1 25 = .ok (.istore_n 1, 1) := by decide +kernel
theorem d_Ln_readers_26 : decode M_Ln_readers.2.1 26 = .ok (.iinc 2 1, 3) := by decide +kernel
theorem d_Ln_readers_29 : decode M_Ln_readers.2.1 29 = .ok (.goto (-25), 3) := by decide +kernel
theorem d_Ln_readers_32 : decode M_Ln_readers.2.1 32 = .ok (.iload_n 1, 1) := by decide +kernel
theorem d_Ln_readers_33 : decode M_Ln_readers.2.1 33 = .ok (.ireturn, 1) := by decide +kernel
theorem d_Ln_allRead_0 : decode M_Ln_allRead.2.1 0 = .ok (.aload_n 0, 1) := by decide +kernel
theorem d_Ln_allRead_1 : decode M_Ln_allRead.2.1 1 = .ok (.invokevirtual 99, 3) := by decide +kernel
theorem d_Ln_allRead_4 : decode M_Ln_allRead.2.1 4 = .ok (.iconst 1, 1) := by decide +kernel
theorem d_Ln_allRead_5 : decode M_Ln_allRead.2.1 5 = .ok (.aload_n 0, 1) := by decide +kernel
theorem d_Ln_allRead_6 : decode M_Ln_allRead.2.1 6 = .ok (.getfield 30, 3) := by decide +kernel
theorem d_Ln_allRead_9 : decode M_Ln_allRead.2.1 9 = .ok (.ishl, 1) := by decide +kernel
theorem d_Ln_allRead_10 : decode M_Ln_allRead.2.1 10 = .ok (.iconst 1, 1) := by decide +kernel
theorem d_Ln_allRead_11 : decode M_Ln_allRead.2.1 11 = .ok (.isub, 1) := by decide +kernel
theorem d_Ln_allRead_12 : decode M_Ln_allRead.2.1 12 = .ok (.if_icmp .ne 7, 3) := by decide +kernel
theorem d_Ln_allRead_15 : decode M_Ln_allRead.2.1 15 = .ok (.iconst 1, 1) := by decide +kernel
theorem d_Ln_allRead_16 : decode M_Ln_allRead.2.1 16 = .ok (.goto 4, 3) := by decide +kernel
theorem d_Ln_allRead_19 : decode M_Ln_allRead.2.1 19 = .ok (.iconst 0, 1) := by decide +kernel
theorem d_Ln_allRead_20 : decode M_Ln_allRead.2.1 20 = .ok (.ireturn, 1) := by decide +kernel
theorem d_Ln_canTurn_0 : decode M_Ln_canTurn.2.1 0 = .ok (.aload_n 0, 1) := by decide +kernel
theorem d_Ln_canTurn_1 : decode M_Ln_canTurn.2.1 1 = .ok (.iload_n 1, 1) := by decide +kernel
theorem d_Ln_canTurn_2 : decode M_Ln_canTurn.2.1 2 = .ok (.invokevirtual 49, 3) := by decide +kernel
theorem d_Ln_canTurn_5 : decode M_Ln_canTurn.2.1 5 = .ok (.ifCond .eq 31, 3) := by decide +kernel
theorem d_Ln_canTurn_8 : decode M_Ln_canTurn.2.1 8 = .ok (.aload_n 0, 1) := by decide +kernel
theorem d_Ln_canTurn_9 : decode M_Ln_canTurn.2.1 9 = .ok (.getfield 15, 3) := by decide +kernel
theorem d_Ln_canTurn_12 : decode M_Ln_canTurn.2.1 12 = .ok (.iload_n 1, 1) := by decide +kernel
theorem d_Ln_canTurn_13 : decode M_Ln_canTurn.2.1 13 = .ok (.iaload, 1) := by decide +kernel
theorem d_Ln_canTurn_14 : decode M_Ln_canTurn.2.1 14 = .ok (.iload_n 2, 1) := by decide +kernel
theorem d_Ln_canTurn_15 : decode M_Ln_canTurn.2.1 15 = .ok (.iadd, 1) := by decide +kernel
theorem d_Ln_canTurn_16 : decode M_Ln_canTurn.2.1 16 = .ok (.ifCond .lt 20, 3) := by decide +kernel
theorem d_Ln_canTurn_19 : decode M_Ln_canTurn.2.1 19 = .ok (.aload_n 0, 1) := by decide +kernel
theorem d_Ln_canTurn_20 : decode M_Ln_canTurn.2.1 20 = .ok (.getfield 15, 3) := by decide +kernel
theorem d_Ln_canTurn_23 : decode M_Ln_canTurn.2.1 23 = .ok (.iload_n 1, 1) := by decide +kernel
theorem d_Ln_canTurn_24 : decode M_Ln_canTurn.2.1 24 = .ok (.iaload, 1) := by decide +kernel
theorem d_Ln_canTurn_25 : decode M_Ln_canTurn.2.1 25 = .ok (.iload_n 2, 1) := by decide +kernel
theorem d_Ln_canTurn_26 : decode M_Ln_canTurn.2.1 26 = .ok (.iadd, 1) := by decide +kernel
theorem d_Ln_canTurn_27 : decode M_Ln_canTurn.2.1 27 = .ok (.bipush 9, 2) := by decide +kernel
theorem d_Ln_canTurn_29 : decode M_Ln_canTurn.2.1 29 = .ok (.if_icmp .gt 7, 3) := by decide +kernel
theorem d_Ln_canTurn_32 : decode M_Ln_canTurn.2.1 32 = .ok (.iconst 1, 1) := by decide +kernel
theorem d_Ln_canTurn_33 : decode M_Ln_canTurn.2.1 33 = .ok (.goto 4, 3) := by decide +kernel
theorem d_Ln_canTurn_36 : decode M_Ln_canTurn.2.1 36 = .ok (.iconst 0, 1) := by decide +kernel
theorem d_Ln_canTurn_37 : decode M_Ln_canTurn.2.1 37 = .ok (.ireturn, 1) := by decide +kernel
theorem d_Ln_turn_0 : decode M_Ln_turn.2.1 0 = .ok (.aload_n 0, 1) := by decide +kernel
theorem d_Ln_turn_1 : decode M_Ln_turn.2.1 1 = .ok (.iload_n 1, 1) := by decide +kernel
theorem d_Ln_turn_2 : decode M_Ln_turn.2.1 2 = .ok (.iload_n 2, 1) := by decide +kernel
theorem d_Ln_turn_3 : decode M_Ln_turn.2.1 3 = .ok (.invokevirtual 103, 3) := by decide +kernel
theorem d_Ln_turn_6 : decode M_Ln_turn.2.1 6 = .ok (.ifCond .ne 5, 3) := by decide +kernel
theorem d_Ln_turn_9 : decode M_Ln_turn.2.1 9 = .ok (.iconst 0, 1) := by decide +kernel
theorem d_Ln_turn_10 : decode M_Ln_turn.2.1 10 = .ok (.ireturn, 1) := by decide +kernel
theorem d_Ln_turn_11 : decode M_Ln_turn.2.1 11 = .ok (.aload_n 0, 1) := by decide +kernel
theorem d_Ln_turn_12 : decode M_Ln_turn.2.1 12 = .ok (.getfield 15, 3) := by decide +kernel
theorem d_Ln_turn_15 : decode M_Ln_turn.2.1 15 = .ok (.iload_n 1, 1) := by decide +kernel
theorem d_Ln_turn_16 : decode M_Ln_turn.2.1 16 = .ok (.dup2, 1) := by decide +kernel
theorem d_Ln_turn_17 : decode M_Ln_turn.2.1 17 = .ok (.iaload, 1) := by decide +kernel
theorem d_Ln_turn_18 : decode M_Ln_turn.2.1 18 = .ok (.iload_n 2, 1) := by decide +kernel
theorem d_Ln_turn_19 : decode M_Ln_turn.2.1 19 = .ok (.iadd, 1) := by decide +kernel
theorem d_Ln_turn_20 : decode M_Ln_turn.2.1 20 = .ok (.iastore, 1) := by decide +kernel
theorem d_Ln_turn_21 : decode M_Ln_turn.2.1 21 = .ok (.iconst 1, 1) := by decide +kernel
theorem d_Ln_turn_22 : decode M_Ln_turn.2.1 22 = .ok (.ireturn, 1) := by decide +kernel
theorem d_Ln_passNight_0 : decode M_Ln_passNight.2.1 0 = .ok (.aload_n 0, 1) := by decide +kernel
theorem d_Ln_passNight_1 : decode M_Ln_passNight.2.1 1 = .ok (.invokevirtual 93, 3) := by decide +kernel
theorem d_Ln_passNight_4 : decode M_Ln_passNight.2.1 4 = .ok (.iconst 0, 1) := by decide +kernel
theorem d_Ln_passNight_5 : decode M_Ln_passNight.2.1 5 = .ok (.istore_n 1, 1) := by decide +kernel
theorem d_Ln_passNight_6 : decode M_Ln_passNight.2.1 6 = .ok (.iconst 0, 1) := by decide +kernel
theorem d_Ln_passNight_7 : decode M_Ln_passNight.2.1 7 = .ok (.istore_n 2, 1) := by decide +kernel
theorem d_Ln_passNight_8 : decode M_Ln_passNight.2.1 8 = .ok (.iload_n 2, 1) := by decide +kernel
theorem d_Ln_passNight_9 : decode M_Ln_passNight.2.1 9 = .ok (.aload_n 0, 1) := by decide +kernel
theorem d_Ln_passNight_10 : decode M_Ln_passNight.2.1 10 = .ok (.getfield 30, 3) := by decide +kernel
theorem d_Ln_passNight_13 : decode M_Ln_passNight.2.1 13 = .ok (.if_icmp .ge 33, 3) := by decide +kernel
theorem d_Ln_passNight_16 : decode M_Ln_passNight.2.1 16 = .ok (.aload_n 0, 1) := by decide +kernel
theorem d_Ln_passNight_17 : decode M_Ln_passNight.2.1 17 = .ok (.getfield 21, 3) := by decide +kernel
theorem d_Ln_passNight_20 : decode M_Ln_passNight.2.1 20 = .ok (.iload_n 2, 1) := by decide +kernel
theorem d_Ln_passNight_21 : decode M_Ln_passNight.2.1 21 = .ok (.dup2, 1) := by decide +kernel
theorem d_Ln_passNight_22 : decode M_Ln_passNight.2.1 22 = .ok (.iaload, 1) := by decide +kernel
theorem d_Ln_passNight_23 : decode M_Ln_passNight.2.1 23 = .ok (.aload_n 0, 1) := by decide +kernel
theorem d_Ln_passNight_24 : decode M_Ln_passNight.2.1 24 = .ok (.getfield 46, 3) := by decide +kernel
theorem d_Ln_passNight_27 : decode M_Ln_passNight.2.1 27 = .ok (.iload_n 2, 1) := by decide +kernel
theorem d_Ln_passNight_28 : decode M_Ln_passNight.2.1 28 = .ok (.iaload, 1) := by decide +kernel
theorem d_Ln_passNight_29 : decode M_Ln_passNight.2.1 29 = .ok (.iadd, 1) := by decide +kernel
theorem d_Ln_passNight_30 : decode M_Ln_passNight.2.1 30 = .ok (.iastore, 1) := by decide +kernel
theorem d_Ln_passNight_31 : decode M_Ln_passNight.2.1 31 = .ok (.iload_n 1, 1) := by decide +kernel
theorem d_Ln_passNight_32 : decode M_Ln_passNight.2.1 32 = .ok (.aload_n 0, 1) := by decide +kernel
theorem d_Ln_passNight_33 : decode M_Ln_passNight.2.1 33 = .ok (.getfield 46, 3) := by decide +kernel
theorem d_Ln_passNight_36 : decode M_Ln_passNight.2.1 36 = .ok (.iload_n 2, 1) := by decide +kernel
theorem d_Ln_passNight_37 : decode M_Ln_passNight.2.1 37 = .ok (.iaload, 1) := by decide +kernel
theorem d_Ln_passNight_38 : decode M_Ln_passNight.2.1 38 = .ok (.iadd, 1) := by decide +kernel
theorem d_Ln_passNight_39 : decode M_Ln_passNight.2.1 39 = .ok (.istore_n 1, 1) := by decide +kernel
theorem d_Ln_passNight_40 : decode M_Ln_passNight.2.1 40 = .ok (.iinc 2 1, 3) := by decide +kernel
theorem d_Ln_passNight_43 : decode M_Ln_passNight.2.1 43 = .ok (.goto (-35), 3) := by decide +kernel
theorem d_Ln_passNight_46 : decode M_Ln_passNight.2.1 46 = .ok (.iconst 0, 1) := by decide +kernel
theorem d_Ln_passNight_47 : decode M_Ln_passNight.2.1 47 = .ok (.istore_n 2, 1) := by decide +kernel
theorem d_Ln_passNight_48 : decode M_Ln_passNight.2.1 48 = .ok (.iload_n 2, 1) := by decide +kernel
theorem d_Ln_passNight_49 : decode M_Ln_passNight.2.1 49 = .ok (.aload_n 0, 1) := by decide +kernel
theorem d_Ln_passNight_50 : decode M_Ln_passNight.2.1 50 = .ok (.getfield 34, 3) := by decide +kernel
theorem d_Ln_passNight_53 : decode M_Ln_passNight.2.1 53 = .ok (.if_icmp .ge 19, 3) := by decide +kernel
theorem d_Ln_passNight_56 : decode M_Ln_passNight.2.1 56 = .ok (.aload_n 0, 1) := by decide +kernel
theorem d_Ln_passNight_57 : decode M_Ln_passNight.2.1 57 = .ok (.iload_n 2, 1) := by decide +kernel
theorem d_Ln_passNight_58 : decode M_Ln_passNight.2.1 58 = .ok (.aload_n 0, 1) := by decide +kernel
theorem d_Ln_passNight_59 : decode M_Ln_passNight.2.1 59 = .ok (.iload_n 2, 1) := by decide +kernel
theorem d_Ln_passNight_60 : decode M_Ln_passNight.2.1 60 = .ok (.invokevirtual 78, 3) := by decide +kernel
theorem d_Ln_passNight_63 : decode M_Ln_passNight.2.1 63 = .ok (.invokevirtual 107, 3) := by decide +kernel
theorem d_Ln_passNight_66 : decode M_Ln_passNight.2.1 66 = .ok (.iinc 2 1, 3) := by decide +kernel
theorem d_Ln_passNight_69 : decode M_Ln_passNight.2.1 69 = .ok (.goto (-21), 3) := by decide +kernel
theorem d_Ln_passNight_72 : decode M_Ln_passNight.2.1 72 = .ok (.aload_n 0, 1) := by decide +kernel
theorem d_Ln_passNight_73 : decode M_Ln_passNight.2.1 73 = .ok (.dup, 1) := by decide +kernel
theorem d_Ln_passNight_74 : decode M_Ln_passNight.2.1 74 = .ok (.getfield 43, 3) := by decide +kernel
theorem d_Ln_passNight_77 : decode M_Ln_passNight.2.1 77 = .ok (.iconst 1, 1) := by decide +kernel
theorem d_Ln_passNight_78 : decode M_Ln_passNight.2.1 78 = .ok (.iadd, 1) := by decide +kernel
theorem d_Ln_passNight_79 : decode M_Ln_passNight.2.1 79 = .ok (.putfield 43, 3) := by decide +kernel
theorem d_Ln_passNight_82 : decode M_Ln_passNight.2.1 82 = .ok (.iload_n 1, 1) := by decide +kernel
theorem d_Ln_passNight_83 : decode M_Ln_passNight.2.1 83 = .ok (.ireturn, 1) := by decide +kernel
theorem d_Ln_flyNearer_0 : decode M_Ln_flyNearer.2.1 0 = .ok (.iload_n 2, 1) := by decide +kernel
theorem d_Ln_flyNearer_1 : decode M_Ln_flyNearer.2.1 1 = .ok (.invokestatic 110, 3) := by decide +kernel
theorem d_Ln_flyNearer_4 : decode M_Ln_flyNearer.2.1 4 = .ok (.istore_n 3, 1) := by decide +kernel
theorem d_Ln_flyNearer_5 : decode M_Ln_flyNearer.2.1 5 = .ok (.aload_n 0, 1) := by decide +kernel
theorem d_Ln_flyNearer_6 : decode M_Ln_flyNearer.2.1 6 = .ok (.iload_n 3, 1) := by decide +kernel
theorem d_Ln_flyNearer_7 : decode M_Ln_flyNearer.2.1 7 = .ok (.invokevirtual 49, 3) := by decide +kernel
theorem d_Ln_flyNearer_10 : decode M_Ln_flyNearer.2.1 10 = .ok (.ifCond .eq 11, 3) := by decide +kernel
theorem d_Ln_flyNearer_13 : decode M_Ln_flyNearer.2.1 13 = .ok (.aload_n 0, 1) := by decide +kernel
theorem d_Ln_flyNearer_14 : decode M_Ln_flyNearer.2.1 14 = .ok (.iload_n 1, 1) := by decide +kernel
theorem d_Ln_flyNearer_15 : decode M_Ln_flyNearer.2.1 15 = .ok (.invokevirtual 53, 3) := by decide +kernel
theorem d_Ln_flyNearer_18 : decode M_Ln_flyNearer.2.1 18 = .ok (.ifCond .ne 4, 3) := by decide +kernel
theorem d_Ln_flyNearer_21 : decode M_Ln_flyNearer.2.1 21 = .ok (.return_, 1) := by decide +kernel
theorem d_Ln_flyNearer_22 : decode M_Ln_flyNearer.2.1 22 = .ok (.aload_n 0, 1) := by decide +kernel
theorem d_Ln_flyNearer_23 : decode M_Ln_flyNearer.2.1 23 = .ok (.getfield 24, 3) := by decide +kernel
theorem d_Ln_flyNearer_26 : decode M_Ln_flyNearer.2.1 26 = .ok (.iload_n 1, 1) := by decide +kernel
theorem d_Ln_flyNearer_27 : decode M_Ln_flyNearer.2.1 27 = .ok (.dup2, 1) := by decide +kernel
theorem d_Ln_flyNearer_28 : decode M_Ln_flyNearer.2.1 28 = .ok (.iaload, 1) := by decide +kernel
theorem d_Ln_flyNearer_29 : decode M_Ln_flyNearer.2.1 29 = .ok (.aload_n 0, 1) := by decide +kernel
theorem d_Ln_flyNearer_30 : decode M_Ln_flyNearer.2.1 30 = .ok (.getfield 9, 3) := by decide +kernel
theorem d_Ln_flyNearer_33 : decode M_Ln_flyNearer.2.1 33 = .ok (.iload_n 3, 1) := by decide +kernel
theorem d_Ln_flyNearer_34 : decode M_Ln_flyNearer.2.1 34 = .ok (.iaload, 1) := by decide +kernel
theorem d_Ln_flyNearer_35 : decode M_Ln_flyNearer.2.1 35 = .ok (.aload_n 0, 1) := by decide +kernel
theorem d_Ln_flyNearer_36 : decode M_Ln_flyNearer.2.1 36 = .ok (.getfield 24, 3) := by decide +kernel
theorem d_Ln_flyNearer_39 : decode M_Ln_flyNearer.2.1 39 = .ok (.iload_n 1, 1) := by decide +kernel
theorem d_Ln_flyNearer_40 : decode M_Ln_flyNearer.2.1 40 = .ok (.iaload, 1) := by decide +kernel
theorem d_Ln_flyNearer_41 : decode M_Ln_flyNearer.2.1 41 = .ok (.invokestatic 113, 3) := by decide +kernel
theorem d_Ln_flyNearer_44 : decode M_Ln_flyNearer.2.1 44 = .ok (.iadd, 1) := by decide +kernel
theorem d_Ln_flyNearer_45 : decode M_Ln_flyNearer.2.1 45 = .ok (.iastore, 1) := by decide +kernel
theorem d_Ln_flyNearer_46 : decode M_Ln_flyNearer.2.1 46 = .ok (.return_, 1) := by decide +kernel
theorem d_Ln_cloud_0 : decode M_Ln_cloud.2.1 0 = .ok (.iconst 0, 1) := by decide +kernel
theorem d_Ln_cloud_1 : decode M_Ln_cloud.2.1 1 = .ok (.istore_n 2, 1) := by decide +kernel
theorem d_Ln_cloud_2 : decode M_Ln_cloud.2.1 2 = .ok (.iload_n 2, 1) := by decide +kernel
theorem d_Ln_cloud_3 : decode M_Ln_cloud.2.1 3 = .ok (.aload_n 0, 1) := by decide +kernel
theorem d_Ln_cloud_4 : decode M_Ln_cloud.2.1 4 = .ok (.getfield 30, 3) := by decide +kernel
theorem d_Ln_cloud_7 : decode M_Ln_cloud.2.1 7 = .ok (.if_icmp .ge 36, 3) := by decide +kernel
theorem d_Ln_cloud_10 : decode M_Ln_cloud.2.1 10 = .ok (.iload_n 1, 1) := by decide +kernel
theorem d_Ln_cloud_11 : decode M_Ln_cloud.2.1 11 = .ok (.iload_n 2, 1) := by decide +kernel
theorem d_Ln_cloud_12 : decode M_Ln_cloud.2.1 12 = .ok (.ishr, 1) := by decide +kernel
theorem d_Ln_cloud_13 : decode M_Ln_cloud.2.1 13 = .ok (.iconst 1, 1) := by decide +kernel
theorem d_Ln_cloud_14 : decode M_Ln_cloud.2.1 14 = .ok (.iand, 1) := by decide +kernel
theorem d_Ln_cloud_15 : decode M_Ln_cloud.2.1 15 = .ok (.iconst 1, 1) := by decide +kernel
theorem d_Ln_cloud_16 : decode M_Ln_cloud.2.1 16 = .ok (.if_icmp .ne 21, 3) := by decide +kernel
theorem d_Ln_cloud_19 : decode M_Ln_cloud.2.1 19 = .ok (.aload_n 0, 1) := by decide +kernel
theorem d_Ln_cloud_20 : decode M_Ln_cloud.2.1 20 = .ok (.getfield 15, 3) := by decide +kernel
theorem d_Ln_cloud_23 : decode M_Ln_cloud.2.1 23 = .ok (.iload_n 2, 1) := by decide +kernel
theorem d_Ln_cloud_24 : decode M_Ln_cloud.2.1 24 = .ok (.iconst 0, 1) := by decide +kernel
theorem d_Ln_cloud_25 : decode M_Ln_cloud.2.1 25 = .ok (.aload_n 0, 1) := by decide +kernel
theorem d_Ln_cloud_26 : decode M_Ln_cloud.2.1 26 = .ok (.getfield 15, 3) := by decide +kernel
theorem d_Ln_cloud_29 : decode M_Ln_cloud.2.1 29 = .ok (.iload_n 2, 1) := by decide +kernel
theorem d_Ln_cloud_30 : decode M_Ln_cloud.2.1 30 = .ok (.iaload, 1) := by decide +kernel
theorem d_Ln_cloud_31 : decode M_Ln_cloud.2.1 31 = .ok (.iconst 2, 1) := by decide +kernel
theorem d_Ln_cloud_32 : decode M_Ln_cloud.2.1 32 = .ok (.isub, 1) := by decide +kernel
theorem d_Ln_cloud_33 : decode M_Ln_cloud.2.1 33 = .ok (.invokestatic 72, 3) := by decide +kernel
theorem d_Ln_cloud_36 : decode M_Ln_cloud.2.1 36 = .ok (.iastore, 1) := by decide +kernel
theorem d_Ln_cloud_37 : decode M_Ln_cloud.2.1 37 = .ok (.iinc 2 1, 3) := by decide +kernel
theorem d_Ln_cloud_40 : decode M_Ln_cloud.2.1 40 = .ok (.goto (-38), 3) := by decide +kernel
theorem d_Ln_cloud_43 : decode M_Ln_cloud.2.1 43 = .ok (.return_, 1) := by decide +kernel
theorem d_Ln_burnByThrees_0 : decode M_Ln_burnByThrees.2.1 0 = .ok (.iload_n 1, 1) := by decide +kernel
theorem d_Ln_burnByThrees_1 : decode M_Ln_burnByThrees.2.1 1 = .ok (.istore_n 2, 1) := by decide +kernel
theorem d_Ln_burnByThrees_2 : decode M_Ln_burnByThrees.2.1 2 = .ok (.aload_n 0, 1) := by decide +kernel
theorem d_Ln_burnByThrees_3 : decode M_Ln_burnByThrees.2.1 3 = .ok (.getfield 30, 3) := by decide +kernel
theorem d_Ln_burnByThrees_6 : decode M_Ln_burnByThrees.2.1 6 = .ok (.iconst 1, 1) := by decide +kernel
theorem d_Ln_burnByThrees_7 : decode M_Ln_burnByThrees.2.1 7 = .ok (.isub, 1) := by decide +kernel
theorem d_Ln_burnByThrees_8 : decode M_Ln_burnByThrees.2.1 8 = .ok (.istore_n 3, 1) := by decide +kernel
theorem d_Ln_burnByThrees_9 : decode M_Ln_burnByThrees.2.1 9 = .ok (.iload_n 3, 1) := by decide +kernel
theorem d_Ln_burnByThrees_10 : decode M_Ln_burnByThrees.2.1 10 = .ok (.ifCond .lt 24, 3) := by decide +kernel
theorem d_Ln_burnByThrees_13 : decode M_Ln_burnByThrees.2.1 13 = .ok (.aload_n 0, 1) := by decide +kernel
theorem d_Ln_burnByThrees_14 : decode M_Ln_burnByThrees.2.1 14 = .ok (.getfield 15, 3) := by decide +kernel
theorem d_Ln_burnByThrees_17 : decode M_Ln_burnByThrees.2.1 17 = .ok (.iload_n 3, 1) := by decide +kernel
theorem d_Ln_burnByThrees_18 : decode M_Ln_burnByThrees.2.1 18 = .ok (.iload_n 2, 1) := by decide +kernel
theorem d_Ln_burnByThrees_19 : decode M_Ln_burnByThrees.2.1 19 = .ok (.iconst 3, 1) := by decide +kernel
theorem d_Ln_burnByThrees_20 : decode M_Ln_burnByThrees.2.1 20 = .ok (.irem, 1) := by decide +kernel
theorem d_Ln_burnByThrees_21 : decode M_Ln_burnByThrees.2.1 21 = .ok (.iconst 3, 1) := by decide +kernel
theorem d_Ln_burnByThrees_22 : decode M_Ln_burnByThrees.2.1 22 = .ok (.imul, 1) := by decide +kernel
theorem d_Ln_burnByThrees_23 : decode M_Ln_burnByThrees.2.1 23 = .ok (.iastore, 1) := by decide +kernel
theorem d_Ln_burnByThrees_24 : decode M_Ln_burnByThrees.2.1 24 = .ok (.iload_n 2, 1) := by decide +kernel
theorem d_Ln_burnByThrees_25 : decode M_Ln_burnByThrees.2.1 25 = .ok (.iconst 3, 1) := by decide +kernel
theorem d_Ln_burnByThrees_26 : decode M_Ln_burnByThrees.2.1 26 = .ok (.idiv, 1) := by decide +kernel
theorem d_Ln_burnByThrees_27 : decode M_Ln_burnByThrees.2.1 27 = .ok (.istore_n 2, 1) := by decide +kernel
theorem d_Ln_burnByThrees_28 : decode M_Ln_burnByThrees.2.1 28 = .ok (.iinc 3 (-1), 3) := by decide +kernel
theorem d_Ln_burnByThrees_31 : decode M_Ln_burnByThrees.2.1 31 = .ok (.goto (-22), 3) := by decide +kernel
theorem d_Ln_burnByThrees_34 : decode M_Ln_burnByThrees.2.1 34 = .ok (.return_, 1) := by decide +kernel
theorem d_Ln_burnsAsRow_0 : decode M_Ln_burnsAsRow.2.1 0 = .ok (.iconst 1, 1) := by decide +kernel
theorem d_Ln_burnsAsRow_1 : decode M_Ln_burnsAsRow.2.1 1 = .ok (.istore_n 1, 1) := by decide +kernel
theorem d_Ln_burnsAsRow_2 : decode M_Ln_burnsAsRow.2.1 2 = .ok (.iconst 0, 1) := by decide +kernel
theorem d_Ln_burnsAsRow_3 : decode M_Ln_burnsAsRow.2.1 3 = .ok (.istore_n 2, 1) := by decide +kernel
theorem d_Ln_burnsAsRow_4 : decode M_Ln_burnsAsRow.2.1 4 = .ok (.iload_n 2, 1) := by decide +kernel
theorem d_Ln_burnsAsRow_5 : decode M_Ln_burnsAsRow.2.1 5 = .ok (.aload_n 0, 1) := by decide +kernel
theorem d_Ln_burnsAsRow_6 : decode M_Ln_burnsAsRow.2.1 6 = .ok (.getfield 30, 3) := by decide +kernel
theorem d_Ln_burnsAsRow_9 : decode M_Ln_burnsAsRow.2.1 9 = .ok (.if_icmp .ge 21, 3) := by decide +kernel
theorem d_Ln_burnsAsRow_12 : decode M_Ln_burnsAsRow.2.1 12 = .ok (.iload_n 1, 1) := by decide +kernel
theorem d_Ln_burnsAsRow_13 : decode M_Ln_burnsAsRow.2.1 13 = .ok (.bipush 10, 2) := by decide +kernel
theorem d_Ln_burnsAsRow_15 : decode M_Ln_burnsAsRow.2.1 15 = .ok (.imul, 1) := by decide +kernel
theorem d_Ln_burnsAsRow_16 : decode M_Ln_burnsAsRow.2.1 16 = .ok (.aload_n 0, 1) := by decide +kernel
theorem d_Ln_burnsAsRow_17 : decode M_Ln_burnsAsRow.2.1 17 = .ok (.getfield 15, 3) := by decide +kernel
theorem d_Ln_burnsAsRow_20 : decode M_Ln_burnsAsRow.2.1 20 = .ok (.iload_n 2, 1) := by decide +kernel
theorem d_Ln_burnsAsRow_21 : decode M_Ln_burnsAsRow.2.1 21 = .ok (.iaload, 1) := by decide +kernel
theorem d_Ln_burnsAsRow_22 : decode M_Ln_burnsAsRow.2.1 22 = .ok (.iadd, 1) := by decide +kernel
theorem d_Ln_burnsAsRow_23 : decode M_Ln_burnsAsRow.2.1 23 = .ok (.istore_n 1, 1) := by decide +kernel
theorem d_Ln_burnsAsRow_24 : decode M_Ln_burnsAsRow.2.1 24 = .ok (.iinc 2 1, 3) := by decide +kernel
theorem d_Ln_burnsAsRow_27 : decode M_Ln_burnsAsRow.2.1 27 = .ok (.goto (-23), 3) := by decide +kernel
theorem d_Ln_burnsAsRow_30 : decode M_Ln_burnsAsRow.2.1 30 = .ok (.iload_n 1, 1) := by decide +kernel
theorem d_Ln_burnsAsRow_31 : decode M_Ln_burnsAsRow.2.1 31 = .ok (.ireturn, 1) := by decide +kernel
theorem d_Rd_init_0 : decode M_Rd_init.2.1 0 = .ok (.aload_n 0, 1) := by decide +kernel
theorem d_Rd_init_1 : decode M_Rd_init.2.1 1 = .ok (.invokespecial 3, 3) := by decide +kernel
theorem d_Rd_init_4 : decode M_Rd_init.2.1 4 = .ok (.aload_n 0, 1) := by decide +kernel
theorem d_Rd_init_5 : decode M_Rd_init.2.1 5 = .ok (.iconst 0, 1) := by decide +kernel
theorem d_Rd_init_6 : decode M_Rd_init.2.1 6 = .ok (.putfield 11, 3) := by decide +kernel
theorem d_Rd_init_9 : decode M_Rd_init.2.1 9 = .ok (.aload_n 0, 1) := by decide +kernel
theorem d_Rd_init_10 : decode M_Rd_init.2.1 10 = .ok (.iconst 0, 1) := by decide +kernel
theorem d_Rd_init_11 : decode M_Rd_init.2.1 11 = .ok (.putfield 15, 3) := by decide +kernel
theorem d_Rd_init_14 : decode M_Rd_init.2.1 14 = .ok (.aload_n 0, 1) := by decide +kernel
theorem d_Rd_init_15 : decode M_Rd_init.2.1 15 = .ok (.iconst 0, 1) := by decide +kernel
theorem d_Rd_init_16 : decode M_Rd_init.2.1 16 = .ok (.putfield 18, 3) := by decide +kernel
theorem d_Rd_init_19 : decode M_Rd_init.2.1 19 = .ok (.return_, 1) := by decide +kernel
theorem d_Rd_begin_0 : decode M_Rd_begin.2.1 0 = .ok (.aload_n 1, 1) := by decide +kernel
theorem d_Rd_begin_1 : decode M_Rd_begin.2.1 1 = .ok (.invokevirtual 21, 3) := by decide +kernel
theorem d_Rd_begin_4 : decode M_Rd_begin.2.1 4 = .ok (.aload_n 0, 1) := by decide +kernel
theorem d_Rd_begin_5 : decode M_Rd_begin.2.1 5 = .ok (.iconst 0, 1) := by decide +kernel
theorem d_Rd_begin_6 : decode M_Rd_begin.2.1 6 = .ok (.putfield 11, 3) := by decide +kernel
theorem d_Rd_begin_9 : decode M_Rd_begin.2.1 9 = .ok (.return_, 1) := by decide +kernel
theorem d_Rd_mayEnd_0 : decode M_Rd_mayEnd.2.1 0 = .ok (.aload_n 0, 1) := by decide +kernel
theorem d_Rd_mayEnd_1 : decode M_Rd_mayEnd.2.1 1 = .ok (.getfield 11, 3) := by decide +kernel
theorem d_Rd_mayEnd_4 : decode M_Rd_mayEnd.2.1 4 = .ok (.iconst 3, 1) := by decide +kernel
theorem d_Rd_mayEnd_5 : decode M_Rd_mayEnd.2.1 5 = .ok (.if_icmp .ne 7, 3) := by decide +kernel
theorem d_Rd_mayEnd_8 : decode M_Rd_mayEnd.2.1 8 = .ok (.iconst 1, 1) := by decide +kernel
theorem d_Rd_mayEnd_9 : decode M_Rd_mayEnd.2.1 9 = .ok (.goto 4, 3) := by decide +kernel
theorem d_Rd_mayEnd_12 : decode M_Rd_mayEnd.2.1 12 = .ok (.iconst 0, 1) := by decide +kernel
theorem d_Rd_mayEnd_13 : decode M_Rd_mayEnd.2.1 13 = .ok (.ireturn, 1) := by decide +kernel
theorem d_Rd_takes_0 : decode M_Rd_takes.2.1 0 = .ok (.aload_n 0, 1) := by decide +kernel
theorem d_Rd_takes_1 : decode M_Rd_takes.2.1 1 = .ok (.getfield 11, 3) := by decide +kernel
theorem d_Rd_takes_4 : decode M_Rd_takes.2.1 4 = .ok (.ifCond .ne 20, 3) := by decide +kernel
theorem d_Rd_takes_7 : decode M_Rd_takes.2.1 7 = .ok (.aload_n 0, 1) := by decide +kernel
theorem d_Rd_takes_8 : decode M_Rd_takes.2.1 8 = .ok (.iload_n 1, 1) := by decide +kernel
theorem d_Rd_takes_9 : decode M_Rd_takes.2.1 9 = .ok (.bipush 76, 2) := by decide +kernel
theorem d_Rd_takes_11 : decode M_Rd_takes.2.1 11 = .ok (.if_icmp .ne 7, 3) := by decide +kernel
theorem d_Rd_takes_14 : decode M_Rd_takes.2.1 14 = .ok (.iconst 1, 1) := by decide +kernel
theorem d_Rd_takes_15 : decode M_Rd_takes.2.1 15 = .ok (.goto 4, 3) := by decide +kernel
theorem d_Rd_takes_18 : decode M_Rd_takes.2.1 18 = .ok (.iconst 0, 1) := by decide +kernel
theorem d_Rd_takes_19 : decode M_Rd_takes.2.1 19 = .ok (.iconst 1, 1) := by decide +kernel
theorem d_Rd_takes_20 : decode M_Rd_takes.2.1 20 = .ok (.invokevirtual 26, 3) := by decide +kernel
theorem d_Rd_takes_23 : decode M_Rd_takes.2.1 23 = .ok (.ireturn, 1) := by decide +kernel
theorem d_Rd_takes_24 : decode M_Rd_takes.2.1 24 = .ok (.aload_n 0, 1) := by decide +kernel
theorem d_Rd_takes_25 : decode M_Rd_takes.2.1 25 = .ok (.getfield 11, 3) := by decide +kernel
theorem d_Rd_takes_28 : decode M_Rd_takes.2.1 28 = .ok (.iconst 3, 1) := by decide +kernel
theorem d_Rd_takes_29 : decode M_Rd_takes.2.1 29 = .ok (.if_icmp .ne 10, 3) := by decide +kernel
theorem d_Rd_takes_32 : decode M_Rd_takes.2.1 32 = .ok (.aload_n 0, 1) := by decide +kernel
theorem d_Rd_takes_33 : decode M_Rd_takes.2.1 33 = .ok (.iload_n 1, 1) := by decide +kernel
theorem d_Rd_takes_34 : decode M_Rd_takes.2.1 34 = .ok (.aload_n 2, 1) := by decide +kernel
theorem d_Rd_takes_35 : decode M_Rd_takes.2.1 35 = .ok (.invokevirtual 30, 3) := by decide +kernel
theorem d_Rd_takes_38 : decode M_Rd_takes.2.1 38 = .ok (.ireturn, 1) := by decide +kernel
theorem d_Rd_takes_39 : decode M_Rd_takes.2.1 39 = .ok (.iload_n 1, 1) := by decide +kernel
theorem d_Rd_takes_40 : decode M_Rd_takes.2.1 40 = .ok (.bipush 48, 2) := by decide +kernel
theorem d_Rd_takes_42 : decode M_Rd_takes.2.1 42 = .ok (.isub, 1) := by decide +kernel
theorem d_Rd_takes_43 : decode M_Rd_takes.2.1 43 = .ok (.istore_n 3, 1) := by decide +kernel
theorem d_Rd_takes_44 : decode M_Rd_takes.2.1 44 = .ok (.iload_n 3, 1) := by decide +kernel
theorem d_Rd_takes_45 : decode M_Rd_takes.2.1 45 = .ok (.ifCond .lt 9, 3) := by decide +kernel
theorem d_Rd_takes_48 : decode M_Rd_takes.2.1 48 = .ok (.iload_n 3, 1) := by decide +kernel
theorem d_Rd_takes_49 : decode M_Rd_takes.2.1 49 = .ok (.bipush 9, 2) := by decide +kernel
theorem d_Rd_takes_51 : decode M_Rd_takes.2.1 51 = .ok (.if_icmp .le 5, 3) := by decide +kernel
theorem d_Rd_takes_54 : decode M_Rd_takes.2.1 54 = .ok (.iconst 0, 1) := by decide +kernel
theorem d_Rd_takes_55 : decode M_Rd_takes.2.1 55 = .ok (.ireturn, 1) := by decide +kernel
theorem d_Rd_takes_56 : decode M_Rd_takes.2.1 56 = .ok (.aload_n 0, 1) := by decide +kernel
theorem d_Rd_takes_57 : decode M_Rd_takes.2.1 57 = .ok (.iload_n 3, 1) := by decide +kernel
theorem d_Rd_takes_58 : decode M_Rd_takes.2.1 58 = .ok (.aload_n 2, 1) := by decide +kernel
theorem d_Rd_takes_59 : decode M_Rd_takes.2.1 59 = .ok (.invokevirtual 34, 3) := by decide +kernel
theorem d_Rd_takes_62 : decode M_Rd_takes.2.1 62 = .ok (.ireturn, 1) := by decide +kernel
theorem d_Rd_goesOn_0 : decode M_Rd_goesOn.2.1 0 = .ok (.iload_n 1, 1) := by decide +kernel
theorem d_Rd_goesOn_1 : decode M_Rd_goesOn.2.1 1 = .ok (.ifCond .eq 8, 3) := by decide +kernel
theorem d_Rd_goesOn_4 : decode M_Rd_goesOn.2.1 4 = .ok (.aload_n 0, 1) := by decide +kernel
theorem d_Rd_goesOn_5 : decode M_Rd_goesOn.2.1 5 = .ok (.iload_n 2, 1) := by decide +kernel
theorem d_Rd_goesOn_6 : decode M_Rd_goesOn.2.1 6 = .ok (.putfield 11, 3) := by decide +kernel
theorem d_Rd_goesOn_9 : decode M_Rd_goesOn.2.1 9 = .ok (.iload_n 1, 1) := by decide +kernel
theorem d_Rd_goesOn_10 : decode M_Rd_goesOn.2.1 10 = .ok (.ireturn, 1) := by decide +kernel
theorem d_Rd_takesPart_0 : decode M_Rd_takesPart.2.1 0 = .ok (.iload_n 1, 1) := by decide +kernel
theorem d_Rd_takesPart_1 : decode M_Rd_takesPart.2.1 1 = .ok (.bipush 87, 2) := by decide +kernel
theorem d_Rd_takesPart_3 : decode M_Rd_takesPart.2.1 3 = .ok (.if_icmp .ne 22, 3) := by decide +kernel
theorem d_Rd_takesPart_6 : decode M_Rd_takesPart.2.1 6 = .ok (.aload_n 0, 1) := by decide +kernel
theorem d_Rd_takesPart_7 : decode M_Rd_takesPart.2.1 7 = .ok (.aload_n 2, 1) := by decide +kernel
theorem d_Rd_takesPart_8 : decode M_Rd_takesPart.2.1 8 = .ok (.getfield 37, 3) := by decide +kernel
theorem d_Rd_takesPart_11 : decode M_Rd_takesPart.2.1 11 = .ok (.iconst 5, 1) := by decide +kernel
theorem d_Rd_takesPart_12 : decode M_Rd_takesPart.2.1 12 = .ok (.if_icmp .ge 7, 3) := by decide +kernel
theorem d_Rd_takesPart_15 : decode M_Rd_takesPart.2.1 15 = .ok (.iconst 1, 1) := by decide +kernel
theorem d_Rd_takesPart_16 : decode M_Rd_takesPart.2.1 16 = .ok (.goto 4, 3) := by decide +kernel
theorem d_Rd_takesPart_19 : decode M_Rd_takesPart.2.1 19 = .ok (.iconst 0, 1) := by decide +kernel
theorem d_Rd_takesPart_20 : decode M_Rd_takesPart.2.1 20 = .ok (.iconst 4, 1) := by decide +kernel
theorem d_Rd_takesPart_21 : decode M_Rd_takesPart.2.1 21 = .ok (.invokevirtual 26, 3) := by decide +kernel
theorem d_Rd_takesPart_24 : decode M_Rd_takesPart.2.1 24 = .ok (.ireturn, 1) := by decide +kernel
theorem d_Rd_takesPart_25 : decode M_Rd_takesPart.2.1 25 = .ok (.aload_n 0, 1) := by decide +kernel
theorem d_Rd_takesPart_26 : decode M_Rd_takesPart.2.1 26 = .ok (.iload_n 1, 1) := by decide +kernel
theorem d_Rd_takesPart_27 : decode M_Rd_takesPart.2.1 27 = .ok (.bipush 77, 2) := by decide +kernel
theorem d_Rd_takesPart_29 : decode M_Rd_takesPart.2.1 29 = .ok (.if_icmp .ne 16, 3) := by decide +kernel
theorem d_Rd_takesPart_32 : decode M_Rd_takesPart.2.1 32 = .ok (.aload_n 2, 1) := by decide +kernel
theorem d_Rd_takesPart_33 : decode M_Rd_takesPart.2.1 33 = .ok (.getfield 40, 3) := by decide +kernel
theorem d_Rd_takesPart_36 : decode M_Rd_takesPart.2.1 36 = .ok (.bipush 6, 2) := by decide +kernel
theorem d_Rd_takesPart_38 : decode M_Rd_takesPart.2.1 38 = .ok (.if_icmp .ge 7, 3) := by decide +kernel
theorem d_Rd_takesPart_41 : decode M_Rd_takesPart.2.1 41 = .ok (.iconst 1, 1) := by decide +kernel
theorem d_Rd_takesPart_42 : decode M_Rd_takesPart.2.1 42 = .ok (.goto 4, 3) := by decide +kernel
theorem d_Rd_takesPart_45 : decode M_Rd_takesPart.2.1 45 = .ok (.iconst 0, 1) := by decide +kernel
theorem d_Rd_takesPart_46 : decode M_Rd_takesPart.2.1 46 = .ok (.bipush 7, 2) := by decide +kernel
theorem d_Rd_takesPart_48 : decode M_Rd_takesPart.2.1 48 = .ok (.invokevirtual 26, 3) := by decide +kernel
theorem d_Rd_takesPart_51 : decode M_Rd_takesPart.2.1 51 = .ok (.ireturn, 1) := by decide +kernel
theorem d_Rd_takesFigure_0 : decode M_Rd_takesFigure.2.1 0 = .ok (.aload_n 0, 1) := by decide +kernel
theorem d_Rd_takesFigure_1 : decode M_Rd_takesFigure.2.1 1 = .ok (.getfield 11, 3) := by decide +kernel
theorem d_Rd_takesFigure_4 : decode M_Rd_takesFigure.2.1 4 = .ok (.tableswitch 201 1 8 #[48, 63, 201, 75, 105, 118, 150, 173], 48) := by decide +kernel
theorem d_Rd_takesFigure_52 : decode M_Rd_takesFigure.2.1 52 = .ok (.aload_n 2, 1) := by decide +kernel
theorem d_Rd_takesFigure_53 : decode M_Rd_takesFigure.2.1 53 = .ok (.iload_n 1, 1) := by decide +kernel
theorem d_Rd_takesFigure_54 : decode M_Rd_takesFigure.2.1 54 = .ok (.putfield 43, 3) := by decide +kernel
theorem d_Rd_takesFigure_57 : decode M_Rd_takesFigure.2.1 57 = .ok (.aload_n 0, 1) := by decide +kernel
theorem d_Rd_takesFigure_58 : decode M_Rd_takesFigure.2.1 58 = .ok (.iload_n 1, 1) := by decide +kernel
theorem d_Rd_takesFigure_59 : decode M_Rd_takesFigure.2.1 59 = .ok (.invokestatic 46, 3) := by decide +kernel
theorem d_Rd_takesFigure_62 : decode M_Rd_takesFigure.2.1 62 = .ok (.iconst 2, 1) := by decide +kernel
theorem d_Rd_takesFigure_63 : decode M_Rd_takesFigure.2.1 63 = .ok (.invokevirtual 26, 3) := by decide +kernel
theorem d_Rd_takesFigure_66 : decode M_Rd_takesFigure.2.1 66 = .ok (.ireturn, 1) := by decide +kernel
theorem d_Rd_takesFigure_67 : decode M_Rd_takesFigure.2.1 67 = .ok (.aload_n 2, 1) := by decide +kernel
theorem d_Rd_takesFigure_68 : decode M_Rd_takesFigure.2.1 68 = .ok (.iload_n 1, 1) := by decide +kernel
theorem d_Rd_takesFigure_69 : decode M_Rd_takesFigure.2.1 69 = .ok (.putfield 50, 3) := by decide +kernel
theorem d_Rd_takesFigure_72 : decode M_Rd_takesFigure.2.1 72 = .ok (.aload_n 0, 1) := by decide +kernel
theorem d_Rd_takesFigure_73 : decode M_Rd_takesFigure.2.1 73 = .ok (.iconst 1, 1) := by decide +kernel
theorem d_Rd_takesFigure_74 : decode M_Rd_takesFigure.2.1 74 = .ok (.iconst 3, 1) := by decide +kernel
theorem d_Rd_takesFigure_75 : decode M_Rd_takesFigure.2.1 75 = .ok (.invokevirtual 26, 3) := by decide +kernel
theorem d_Rd_takesFigure_78 : decode M_Rd_takesFigure.2.1 78 = .ok (.ireturn, 1) := by decide +kernel
theorem d_Rd_takesFigure_79 : decode M_Rd_takesFigure.2.1 79 = .ok (.aload_n 0, 1) := by decide +kernel
theorem d_Rd_takesFigure_80 : decode M_Rd_takesFigure.2.1 80 = .ok (.iload_n 1, 1) := by decide +kernel
theorem d_Rd_takesFigure_81 : decode M_Rd_takesFigure.2.1 81 = .ok (.putfield 15, 3) := by decide +kernel
theorem d_Rd_takesFigure_84 : decode M_Rd_takesFigure.2.1 84 = .ok (.aload_n 0, 1) := by decide +kernel
theorem d_Rd_takesFigure_85 : decode M_Rd_takesFigure.2.1 85 = .ok (.iload_n 1, 1) := by decide +kernel
theorem d_Rd_takesFigure_86 : decode M_Rd_takesFigure.2.1 86 = .ok (.bipush 9, 2) := by decide +kernel
theorem d_Rd_takesFigure_88 : decode M_Rd_takesFigure.2.1 88 = .ok (.if_icmp .ge 15, 3) := by decide +kernel
theorem d_Rd_takesFigure_91 : decode M_Rd_takesFigure.2.1 91 = .ok (.aload_n 2, 1) := by decide +kernel
theorem d_Rd_takesFigure_92 : decode M_Rd_takesFigure.2.1 92 = .ok (.iload_n 1, 1) := by decide +kernel
theorem d_Rd_takesFigure_93 : decode M_Rd_takesFigure.2.1 93 = .ok (.invokevirtual 53, 3) := by decide +kernel
theorem d_Rd_takesFigure_96 : decode M_Rd_takesFigure.2.1 96 = .ok (.ifCond .eq 7, 3) := by decide +kernel
theorem d_Rd_takesFigure_99 : decode M_Rd_takesFigure.2.1 99 = .ok (.iconst 1, 1) := by decide +kernel
theorem d_Rd_takesFigure_100 : decode M_Rd_takesFigure.2.1 100 = .ok (.goto 4, 3) := by decide +kernel
theorem d_Rd_takesFigure_103 : decode M_Rd_takesFigure.2.1 103 = .ok (.iconst 0, 1) := by decide +kernel
theorem d_Rd_takesFigure_104 : decode M_Rd_takesFigure.2.1 104 = .ok (.iconst 5, 1) := by decide +kernel
theorem d_Rd_takesFigure_105 : decode M_Rd_takesFigure.2.1 105 = .ok (.invokevirtual 26, 3) := by decide +kernel
theorem d_Rd_takesFigure_108 : decode M_Rd_takesFigure.2.1 108 = .ok (.ireturn, 1) := by decide +kernel
theorem d_Rd_takesFigure_109 : decode M_Rd_takesFigure.2.1 109 = .ok (.aload_n 0, 1) := by decide +kernel
theorem d_Rd_takesFigure_110 : decode M_Rd_takesFigure.2.1 110 = .ok (.iload_n 1, 1) := by decide +kernel
theorem d_Rd_takesFigure_111 : decode M_Rd_takesFigure.2.1 111 = .ok (.putfield 18, 3) := by decide +kernel
theorem d_Rd_takesFigure_114 : decode M_Rd_takesFigure.2.1 114 = .ok (.aload_n 0, 1) := by decide +kernel
theorem d_Rd_takesFigure_115 : decode M_Rd_takesFigure.2.1 115 = .ok (.iconst 1, 1) := by decide +kernel
theorem d_Rd_takesFigure_116 : decode M_Rd_takesFigure.2.1 116 = .ok (.bipush 6, 2) := by decide +kernel
theorem d_Rd_takesFigure_118 : decode M_Rd_takesFigure.2.1 118 = .ok (.invokevirtual 26, 3) := by decide +kernel
theorem d_Rd_takesFigure_121 : decode M_Rd_takesFigure.2.1 121 = .ok (.ireturn, 1) := by decide +kernel
theorem d_Rd_takesFigure_122 : decode M_Rd_takesFigure.2.1 122 = .ok (.aload_n 0, 1) := by decide +kernel
theorem d_Rd_takesFigure_123 : decode M_Rd_takesFigure.2.1 123 = .ok (.iload_n 1, 1) := by decide +kernel
theorem d_Rd_takesFigure_124 : decode M_Rd_takesFigure.2.1 124 = .ok (.iconst 4, 1) := by decide +kernel
theorem d_Rd_takesFigure_125 : decode M_Rd_takesFigure.2.1 125 = .ok (.if_icmp .ge 23, 3) := by decide +kernel
theorem d_Rd_takesFigure_128 : decode M_Rd_takesFigure.2.1 128 = .ok (.aload_n 2, 1) := by decide +kernel
theorem d_Rd_takesFigure_129 : decode M_Rd_takesFigure.2.1 129 = .ok (.aload_n 0, 1) := by decide +kernel
theorem d_Rd_takesFigure_130 : decode M_Rd_takesFigure.2.1 130 = .ok (.getfield 15, 3) := by decide +kernel
theorem d_Rd_takesFigure_133 : decode M_Rd_takesFigure.2.1 133 = .ok (.aload_n 0, 1) := by decide +kernel
theorem d_Rd_takesFigure_134 : decode M_Rd_takesFigure.2.1 134 = .ok (.getfield 18, 3) := by decide +kernel
theorem d_Rd_takesFigure_137 : decode M_Rd_takesFigure.2.1 137 = .ok (.iload_n 1, 1) := by decide +kernel
theorem d_Rd_takesFigure_138 : decode M_Rd_takesFigure.2.1 138 = .ok (.invokevirtual 56, 3) := by decide +kernel
theorem d_Rd_takesFigure_141 : decode M_Rd_takesFigure.2.1 141 = .ok (.ifCond .eq 7, 3) := by decide +kernel
theorem d_Rd_takesFigure_144 : decode M_Rd_takesFigure.2.1 144 = .ok (.iconst 1, 1) := by decide +kernel
theorem d_Rd_takesFigure_145 : decode M_Rd_takesFigure.2.1 145 = .ok (.goto 4, 3) := by decide +kernel
theorem d_Rd_takesFigure_148 : decode M_Rd_takesFigure.2.1 148 = .ok (.iconst 0, 1) := by decide +kernel
theorem d_Rd_takesFigure_149 : decode M_Rd_takesFigure.2.1 149 = .ok (.iconst 3, 1) := by decide +kernel
theorem d_Rd_takesFigure_150 : decode M_Rd_takesFigure.2.1 150 = .ok (.invokevirtual 26, 3) := by decide +kernel
theorem d_Rd_takesFigure_153 : decode M_Rd_takesFigure.2.1 153 = .ok (.ireturn, 1) := by decide +kernel
theorem d_Rd_takesFigure_154 : decode M_Rd_takesFigure.2.1 154 = .ok (.aload_n 0, 1) := by decide +kernel
theorem d_Rd_takesFigure_155 : decode M_Rd_takesFigure.2.1 155 = .ok (.iload_n 1, 1) := by decide +kernel
theorem d_Rd_takesFigure_156 : decode M_Rd_takesFigure.2.1 156 = .ok (.putfield 15, 3) := by decide +kernel
theorem d_Rd_takesFigure_159 : decode M_Rd_takesFigure.2.1 159 = .ok (.aload_n 0, 1) := by decide +kernel
theorem d_Rd_takesFigure_160 : decode M_Rd_takesFigure.2.1 160 = .ok (.iload_n 1, 1) := by decide +kernel
theorem d_Rd_takesFigure_161 : decode M_Rd_takesFigure.2.1 161 = .ok (.bipush 9, 2) := by decide +kernel
theorem d_Rd_takesFigure_163 : decode M_Rd_takesFigure.2.1 163 = .ok (.if_icmp .ge 7, 3) := by decide +kernel
theorem d_Rd_takesFigure_166 : decode M_Rd_takesFigure.2.1 166 = .ok (.iconst 1, 1) := by decide +kernel
theorem d_Rd_takesFigure_167 : decode M_Rd_takesFigure.2.1 167 = .ok (.goto 4, 3) := by decide +kernel
theorem d_Rd_takesFigure_170 : decode M_Rd_takesFigure.2.1 170 = .ok (.iconst 0, 1) := by decide +kernel
theorem d_Rd_takesFigure_171 : decode M_Rd_takesFigure.2.1 171 = .ok (.bipush 8, 2) := by decide +kernel
theorem d_Rd_takesFigure_173 : decode M_Rd_takesFigure.2.1 173 = .ok (.invokevirtual 26, 3) := by decide +kernel
theorem d_Rd_takesFigure_176 : decode M_Rd_takesFigure.2.1 176 = .ok (.ireturn, 1) := by decide +kernel
theorem d_Rd_takesFigure_177 : decode M_Rd_takesFigure.2.1 177 = .ok (.aload_n 0, 1) := by decide +kernel
theorem d_Rd_takesFigure_178 : decode M_Rd_takesFigure.2.1 178 = .ok (.iload_n 1, 1) := by decide +kernel
theorem d_Rd_takesFigure_179 : decode M_Rd_takesFigure.2.1 179 = .ok (.iconst 4, 1) := by decide +kernel
theorem d_Rd_takesFigure_180 : decode M_Rd_takesFigure.2.1 180 = .ok (.if_icmp .ge 19, 3) := by decide +kernel
theorem d_Rd_takesFigure_183 : decode M_Rd_takesFigure.2.1 183 = .ok (.aload_n 2, 1) := by decide +kernel
theorem d_Rd_takesFigure_184 : decode M_Rd_takesFigure.2.1 184 = .ok (.aload_n 0, 1) := by decide +kernel
theorem d_Rd_takesFigure_185 : decode M_Rd_takesFigure.2.1 185 = .ok (.getfield 15, 3) := by decide +kernel
theorem d_Rd_takesFigure_188 : decode M_Rd_takesFigure.2.1 188 = .ok (.iload_n 1, 1) := by decide +kernel
theorem d_Rd_takesFigure_189 : decode M_Rd_takesFigure.2.1 189 = .ok (.invokevirtual 60, 3) := by decide +kernel
theorem d_Rd_takesFigure_192 : decode M_Rd_takesFigure.2.1 192 = .ok (.ifCond .eq 7, 3) := by decide +kernel
theorem d_Rd_takesFigure_195 : decode M_Rd_takesFigure.2.1 195 = .ok (.iconst 1, 1) := by decide +kernel
theorem d_Rd_takesFigure_196 : decode M_Rd_takesFigure.2.1 196 = .ok (.goto 4, 3) := by decide +kernel
theorem d_Rd_takesFigure_199 : decode M_Rd_takesFigure.2.1 199 = .ok (.iconst 0, 1) := by decide +kernel
theorem d_Rd_takesFigure_200 : decode M_Rd_takesFigure.2.1 200 = .ok (.iconst 3, 1) := by decide +kernel
theorem d_Rd_takesFigure_201 : decode M_Rd_takesFigure.2.1 201 = .ok (.invokevirtual 26, 3) := by decide +kernel
theorem d_Rd_takesFigure_204 : decode M_Rd_takesFigure.2.1 204 = .ok (.ireturn, 1) := by decide +kernel
theorem d_Rd_takesFigure_205 : decode M_Rd_takesFigure.2.1 205 = .ok (.iconst 0, 1) := by decide +kernel
theorem d_Rd_takesFigure_206 : decode M_Rd_takesFigure.2.1 206 = .ok (.ireturn, 1) := by decide +kernel
theorem d_Ji_compare_0 : decode M_Ji_compare.2.1 0 = .ok (.iload_n 0, 1) := by decide +kernel
theorem d_Ji_compare_1 : decode M_Ji_compare.2.1 1 = .ok (.iload_n 1, 1) := by decide +kernel
theorem d_Ji_compare_2 : decode M_Ji_compare.2.1 2 = .ok (.if_icmp .ge 7, 3) := by decide +kernel
theorem d_Ji_compare_5 : decode M_Ji_compare.2.1 5 = .ok (.iconst (-1), 1) := by decide +kernel
theorem d_Ji_compare_6 : decode M_Ji_compare.2.1 6 = .ok (.goto 13, 3) := by decide +kernel
theorem d_Ji_compare_9 : decode M_Ji_compare.2.1 9 = .ok (.iload_n 0, 1) := by decide +kernel
theorem d_Ji_compare_10 : decode M_Ji_compare.2.1 10 = .ok (.iload_n 1, 1) := by decide +kernel
theorem d_Ji_compare_11 : decode M_Ji_compare.2.1 11 = .ok (.if_icmp .ne 7, 3) := by decide +kernel
theorem d_Ji_compare_14 : decode M_Ji_compare.2.1 14 = .ok (.iconst 0, 1) := by decide +kernel
theorem d_Ji_compare_15 : decode M_Ji_compare.2.1 15 = .ok (.goto 4, 3) := by decide +kernel
theorem d_Ji_compare_18 : decode M_Ji_compare.2.1 18 = .ok (.iconst 1, 1) := by decide +kernel
theorem d_Ji_compare_19 : decode M_Ji_compare.2.1 19 = .ok (.ireturn, 1) := by decide +kernel
theorem d_Ji_numberOfTrailingZeros_0 : decode M_Ji_numberOfTrailingZeros.2.1 0 = .ok (.iload_n 0, 1) := by decide +kernel
theorem d_Ji_numberOfTrailingZeros_1 : decode M_Ji_numberOfTrailingZeros.2.1 1 = .ok (.iconst (-1), 1) := by decide +kernel
theorem d_Ji_numberOfTrailingZeros_2 : decode M_Ji_numberOfTrailingZeros.2.1 2 = .ok (.ixor, 1) := by decide +kernel
theorem d_Ji_numberOfTrailingZeros_3 : decode M_Ji_numberOfTrailingZeros.2.1 3 = .ok (.iload_n 0, 1) := by decide +kernel
theorem d_Ji_numberOfTrailingZeros_4 : decode M_Ji_numberOfTrailingZeros.2.1 4 = .ok (.iconst 1, 1) := by decide +kernel
theorem d_Ji_numberOfTrailingZeros_5 : decode M_Ji_numberOfTrailingZeros.2.1 5 = .ok (.isub, 1) := by decide +kernel
theorem d_Ji_numberOfTrailingZeros_6 : decode M_Ji_numberOfTrailingZeros.2.1 6 = .ok (.iand, 1) := by decide +kernel
theorem d_Ji_numberOfTrailingZeros_7 : decode M_Ji_numberOfTrailingZeros.2.1 7 = .ok (.istore_n 0, 1) := by decide +kernel
theorem d_Ji_numberOfTrailingZeros_8 : decode M_Ji_numberOfTrailingZeros.2.1 8 = .ok (.iload_n 0, 1) := by decide +kernel
theorem d_Ji_numberOfTrailingZeros_9 : decode M_Ji_numberOfTrailingZeros.2.1 9 = .ok (.ifCond .gt 8, 3) := by decide +kernel
theorem d_Ji_numberOfTrailingZeros_12 : decode M_Ji_numberOfTrailingZeros.2.1 12 = .ok (.iload_n 0, 1) := by decide +kernel
theorem d_Ji_numberOfTrailingZeros_13 : decode M_Ji_numberOfTrailingZeros.2.1 13 = .ok (.bipush 32, 2) := by decide +kernel
theorem d_Ji_numberOfTrailingZeros_15 : decode M_Ji_numberOfTrailingZeros.2.1 15 = .ok (.iand, 1) := by decide +kernel
theorem d_Ji_numberOfTrailingZeros_16 : decode M_Ji_numberOfTrailingZeros.2.1 16 = .ok (.ireturn, 1) := by decide +kernel
theorem d_Ji_numberOfTrailingZeros_17 : decode M_Ji_numberOfTrailingZeros.2.1 17 = .ok (.iconst 1, 1) := by decide +kernel
theorem d_Ji_numberOfTrailingZeros_18 : decode M_Ji_numberOfTrailingZeros.2.1 18 = .ok (.istore_n 1, 1) := by decide +kernel
theorem d_Ji_numberOfTrailingZeros_19 : decode M_Ji_numberOfTrailingZeros.2.1 19 = .ok (.iload_n 0, 1) := by decide +kernel
theorem d_Ji_numberOfTrailingZeros_20 : decode M_Ji_numberOfTrailingZeros.2.1 20 = .ok (.ldc_w 264, 3) := by decide +kernel
theorem d_Ji_numberOfTrailingZeros_23 : decode M_Ji_numberOfTrailingZeros.2.1 23 = .ok (.if_icmp .le 11, 3) := by decide +kernel
theorem d_Ji_numberOfTrailingZeros_26 : decode M_Ji_numberOfTrailingZeros.2.1 26 = .ok (.iinc 1 16, 3) := by decide +kernel
theorem d_Ji_numberOfTrailingZeros_29 : decode M_Ji_numberOfTrailingZeros.2.1 29 = .ok (.iload_n 0, 1) := by decide +kernel
theorem d_Ji_numberOfTrailingZeros_30 : decode M_Ji_numberOfTrailingZeros.2.1 30 = .ok (.bipush 16, 2) := by decide +kernel
theorem d_Ji_numberOfTrailingZeros_32 : decode M_Ji_numberOfTrailingZeros.2.1 32 = .ok (.iushr, 1) := by decide +kernel
theorem d_Ji_numberOfTrailingZeros_33 : decode M_Ji_numberOfTrailingZeros.2.1 33 = .ok (.istore_n 0, 1) := by decide +kernel
theorem d_Ji_numberOfTrailingZeros_34 : decode M_Ji_numberOfTrailingZeros.2.1 34 = .ok (.iload_n 0, 1) := by decide +kernel
theorem d_Ji_numberOfTrailingZeros_35 : decode M_Ji_numberOfTrailingZeros.2.1 35 = .ok (.sipush 256, 3) := by decide +kernel
theorem d_Ji_numberOfTrailingZeros_38 : decode M_Ji_numberOfTrailingZeros.2.1 38 = .ok (.if_icmp .le 11, 3) := by decide +kernel
theorem d_Ji_numberOfTrailingZeros_41 : decode M_Ji_numberOfTrailingZeros.2.1 41 = .ok (.iinc 1 8, 3) := by decide +kernel
theorem d_Ji_numberOfTrailingZeros_44 : decode M_Ji_numberOfTrailingZeros.2.1 44 = .ok (.iload_n 0, 1) := by decide +kernel
theorem d_Ji_numberOfTrailingZeros_45 : decode M_Ji_numberOfTrailingZeros.2.1 45 = .ok (.bipush 8, 2) := by decide +kernel
theorem d_Ji_numberOfTrailingZeros_47 : decode M_Ji_numberOfTrailingZeros.2.1 47 = .ok (.iushr, 1) := by decide +kernel
theorem d_Ji_numberOfTrailingZeros_48 : decode M_Ji_numberOfTrailingZeros.2.1 48 = .ok (.istore_n 0, 1) := by decide +kernel
theorem d_Ji_numberOfTrailingZeros_49 : decode M_Ji_numberOfTrailingZeros.2.1 49 = .ok (.iload_n 0, 1) := by decide +kernel
theorem d_Ji_numberOfTrailingZeros_50 : decode M_Ji_numberOfTrailingZeros.2.1 50 = .ok (.bipush 16, 2) := by decide +kernel
theorem d_Ji_numberOfTrailingZeros_52 : decode M_Ji_numberOfTrailingZeros.2.1 52 = .ok (.if_icmp .le 10, 3) := by decide +kernel
theorem d_Ji_numberOfTrailingZeros_55 : decode M_Ji_numberOfTrailingZeros.2.1 55 = .ok (.iinc 1 4, 3) := by decide +kernel
theorem d_Ji_numberOfTrailingZeros_58 : decode M_Ji_numberOfTrailingZeros.2.1 58 = .ok (.iload_n 0, 1) := by decide +kernel
theorem d_Ji_numberOfTrailingZeros_59 : decode M_Ji_numberOfTrailingZeros.2.1 59 = .ok (.iconst 4, 1) := by decide +kernel
theorem d_Ji_numberOfTrailingZeros_60 : decode M_Ji_numberOfTrailingZeros.2.1 60 = .ok (.iushr, 1) := by decide +kernel
theorem d_Ji_numberOfTrailingZeros_61 : decode M_Ji_numberOfTrailingZeros.2.1 61 = .ok (.istore_n 0, 1) := by decide +kernel
theorem d_Ji_numberOfTrailingZeros_62 : decode M_Ji_numberOfTrailingZeros.2.1 62 = .ok (.iload_n 0, 1) := by decide +kernel
theorem d_Ji_numberOfTrailingZeros_63 : decode M_Ji_numberOfTrailingZeros.2.1 63 = .ok (.iconst 4, 1) := by decide +kernel
theorem d_Ji_numberOfTrailingZeros_64 : decode M_Ji_numberOfTrailingZeros.2.1 64 = .ok (.if_icmp .le 10, 3) := by decide +kernel
theorem d_Ji_numberOfTrailingZeros_67 : decode M_Ji_numberOfTrailingZeros.2.1 67 = .ok (.iinc 1 2, 3) := by decide +kernel
theorem d_Ji_numberOfTrailingZeros_70 : decode M_Ji_numberOfTrailingZeros.2.1 70 = .ok (.iload_n 0, 1) := by decide +kernel
theorem d_Ji_numberOfTrailingZeros_71 : decode M_Ji_numberOfTrailingZeros.2.1 71 = .ok (.iconst 2, 1) := by decide +kernel
theorem d_Ji_numberOfTrailingZeros_72 : decode M_Ji_numberOfTrailingZeros.2.1 72 = .ok (.iushr, 1) := by decide +kernel
theorem d_Ji_numberOfTrailingZeros_73 : decode M_Ji_numberOfTrailingZeros.2.1 73 = .ok (.istore_n 0, 1) := by decide +kernel
theorem d_Ji_numberOfTrailingZeros_74 : decode M_Ji_numberOfTrailingZeros.2.1 74 = .ok (.iload_n 1, 1) := by decide +kernel
theorem d_Ji_numberOfTrailingZeros_75 : decode M_Ji_numberOfTrailingZeros.2.1 75 = .ok (.iload_n 0, 1) := by decide +kernel
theorem d_Ji_numberOfTrailingZeros_76 : decode M_Ji_numberOfTrailingZeros.2.1 76 = .ok (.iconst 1, 1) := by decide +kernel
theorem d_Ji_numberOfTrailingZeros_77 : decode M_Ji_numberOfTrailingZeros.2.1 77 = .ok (.iushr, 1) := by decide +kernel
theorem d_Ji_numberOfTrailingZeros_78 : decode M_Ji_numberOfTrailingZeros.2.1 78 = .ok (.iadd, 1) := by decide +kernel
theorem d_Ji_numberOfTrailingZeros_79 : decode M_Ji_numberOfTrailingZeros.2.1 79 = .ok (.ireturn, 1) := by decide +kernel
theorem d_Ji_bitCount_0 : decode M_Ji_bitCount.2.1 0 = .ok (.iload_n 0, 1) := by decide +kernel
theorem d_Ji_bitCount_1 : decode M_Ji_bitCount.2.1 1 = .ok (.iload_n 0, 1) := by decide +kernel
theorem d_Ji_bitCount_2 : decode M_Ji_bitCount.2.1 2 = .ok (.iconst 1, 1) := by decide +kernel
theorem d_Ji_bitCount_3 : decode M_Ji_bitCount.2.1 3 = .ok (.iushr, 1) := by decide +kernel
theorem d_Ji_bitCount_4 : decode M_Ji_bitCount.2.1 4 = .ok (.ldc_w 265, 3) := by decide +kernel
theorem d_Ji_bitCount_7 : decode M_Ji_bitCount.2.1 7 = .ok (.iand, 1) := by decide +kernel
theorem d_Ji_bitCount_8 : decode M_Ji_bitCount.2.1 8 = .ok (.isub, 1) := by decide +kernel
theorem d_Ji_bitCount_9 : decode M_Ji_bitCount.2.1 9 = .ok (.istore_n 0, 1) := by decide +kernel
theorem d_Ji_bitCount_10 : decode M_Ji_bitCount.2.1 10 = .ok (.iload_n 0, 1) := by decide +kernel
theorem d_Ji_bitCount_11 : decode M_Ji_bitCount.2.1 11 = .ok (.ldc_w 266, 3) := by decide +kernel
theorem d_Ji_bitCount_14 : decode M_Ji_bitCount.2.1 14 = .ok (.iand, 1) := by decide +kernel
theorem d_Ji_bitCount_15 : decode M_Ji_bitCount.2.1 15 = .ok (.iload_n 0, 1) := by decide +kernel
theorem d_Ji_bitCount_16 : decode M_Ji_bitCount.2.1 16 = .ok (.iconst 2, 1) := by decide +kernel
theorem d_Ji_bitCount_17 : decode M_Ji_bitCount.2.1 17 = .ok (.iushr, 1) := by decide +kernel
theorem d_Ji_bitCount_18 : decode M_Ji_bitCount.2.1 18 = .ok (.ldc_w 266, 3) := by decide +kernel
theorem d_Ji_bitCount_21 : decode M_Ji_bitCount.2.1 21 = .ok (.iand, 1) := by decide +kernel
theorem d_Ji_bitCount_22 : decode M_Ji_bitCount.2.1 22 = .ok (.iadd, 1) := by decide +kernel
theorem d_Ji_bitCount_23 : decode M_Ji_bitCount.2.1 23 = .ok (.istore_n 0, 1) := by decide +kernel
theorem d_Ji_bitCount_24 : decode M_Ji_bitCount.2.1 24 = .ok (.iload_n 0, 1) := by decide +kernel
theorem d_Ji_bitCount_25 : decode M_Ji_bitCount.2.1 25 = .ok (.iload_n 0, 1) := by decide +kernel
theorem d_Ji_bitCount_26 : decode M_Ji_bitCount.2.1 26 = .ok (.iconst 4, 1) := by decide +kernel
theorem d_Ji_bitCount_27 : decode M_Ji_bitCount.2.1 27 = .ok (.iushr, 1) := by decide +kernel
theorem d_Ji_bitCount_28 : decode M_Ji_bitCount.2.1 28 = .ok (.iadd, 1) := by decide +kernel
theorem d_Ji_bitCount_29 : decode M_Ji_bitCount.2.1 29 = .ok (.ldc_w 267, 3) := by decide +kernel
theorem d_Ji_bitCount_32 : decode M_Ji_bitCount.2.1 32 = .ok (.iand, 1) := by decide +kernel
theorem d_Ji_bitCount_33 : decode M_Ji_bitCount.2.1 33 = .ok (.istore_n 0, 1) := by decide +kernel
theorem d_Ji_bitCount_34 : decode M_Ji_bitCount.2.1 34 = .ok (.iload_n 0, 1) := by decide +kernel
theorem d_Ji_bitCount_35 : decode M_Ji_bitCount.2.1 35 = .ok (.iload_n 0, 1) := by decide +kernel
theorem d_Ji_bitCount_36 : decode M_Ji_bitCount.2.1 36 = .ok (.bipush 8, 2) := by decide +kernel
theorem d_Ji_bitCount_38 : decode M_Ji_bitCount.2.1 38 = .ok (.iushr, 1) := by decide +kernel
theorem d_Ji_bitCount_39 : decode M_Ji_bitCount.2.1 39 = .ok (.iadd, 1) := by decide +kernel
theorem d_Ji_bitCount_40 : decode M_Ji_bitCount.2.1 40 = .ok (.istore_n 0, 1) := by decide +kernel
theorem d_Ji_bitCount_41 : decode M_Ji_bitCount.2.1 41 = .ok (.iload_n 0, 1) := by decide +kernel
theorem d_Ji_bitCount_42 : decode M_Ji_bitCount.2.1 42 = .ok (.iload_n 0, 1) := by decide +kernel
theorem d_Ji_bitCount_43 : decode M_Ji_bitCount.2.1 43 = .ok (.bipush 16, 2) := by decide +kernel
theorem d_Ji_bitCount_45 : decode M_Ji_bitCount.2.1 45 = .ok (.iushr, 1) := by decide +kernel
theorem d_Ji_bitCount_46 : decode M_Ji_bitCount.2.1 46 = .ok (.iadd, 1) := by decide +kernel
theorem d_Ji_bitCount_47 : decode M_Ji_bitCount.2.1 47 = .ok (.istore_n 0, 1) := by decide +kernel
theorem d_Ji_bitCount_48 : decode M_Ji_bitCount.2.1 48 = .ok (.iload_n 0, 1) := by decide +kernel
theorem d_Ji_bitCount_49 : decode M_Ji_bitCount.2.1 49 = .ok (.bipush 63, 2) := by decide +kernel
theorem d_Ji_bitCount_51 : decode M_Ji_bitCount.2.1 51 = .ok (.iand, 1) := by decide +kernel
theorem d_Ji_bitCount_52 : decode M_Ji_bitCount.2.1 52 = .ok (.ireturn, 1) := by decide +kernel
theorem d_Jm_abs_0 : decode M_Jm_abs.2.1 0 = .ok (.iload_n 0, 1) := by decide +kernel
theorem d_Jm_abs_1 : decode M_Jm_abs.2.1 1 = .ok (.ifCond .ge 8, 3) := by decide +kernel
theorem d_Jm_abs_4 : decode M_Jm_abs.2.1 4 = .ok (.iload_n 0, 1) := by decide +kernel
theorem d_Jm_abs_5 : decode M_Jm_abs.2.1 5 = .ok (.ineg, 1) := by decide +kernel
theorem d_Jm_abs_6 : decode M_Jm_abs.2.1 6 = .ok (.goto 4, 3) := by decide +kernel
theorem d_Jm_abs_9 : decode M_Jm_abs.2.1 9 = .ok (.iload_n 0, 1) := by decide +kernel
theorem d_Jm_abs_10 : decode M_Jm_abs.2.1 10 = .ok (.ireturn, 1) := by decide +kernel
theorem d_Jm_max_0 : decode M_Jm_max.2.1 0 = .ok (.iload_n 0, 1) := by decide +kernel
theorem d_Jm_max_1 : decode M_Jm_max.2.1 1 = .ok (.iload_n 1, 1) := by decide +kernel
theorem d_Jm_max_2 : decode M_Jm_max.2.1 2 = .ok (.if_icmp .lt 7, 3) := by decide +kernel
theorem d_Jm_max_5 : decode M_Jm_max.2.1 5 = .ok (.iload_n 0, 1) := by decide +kernel
theorem d_Jm_max_6 : decode M_Jm_max.2.1 6 = .ok (.goto 4, 3) := by decide +kernel
theorem d_Jm_max_9 : decode M_Jm_max.2.1 9 = .ok (.iload_n 1, 1) := by decide +kernel
theorem d_Jm_max_10 : decode M_Jm_max.2.1 10 = .ok (.ireturn, 1) := by decide +kernel
