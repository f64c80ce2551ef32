theorem dX0_init_0 : decode cX0_init 0 = .ok (.aload_n 0, 1) := by decide +kernel
theorem dX0_init_1 : decode cX0_init 1 = .ok (.invokespecial 3, 3) := by decide +kernel
theorem dX0_init_4 : decode cX0_init 4 = .ok (.aload_n 0, 1) := by decide +kernel
theorem dX0_init_5 : decode cX0_init 5 = .ok (.bipush 20, 2) := by decide +kernel
theorem dX0_init_7 : decode cX0_init 7 = .ok (.newarray .int, 2) := by decide +kernel
theorem dX0_init_9 : decode cX0_init 9 = .ok (.putfield 9, 3) := by decide +kernel
theorem dX0_init_12 : decode cX0_init 12 = .ok (.aload_n 0, 1) := by decide +kernel
theorem dX0_init_13 : decode cX0_init 13 = .ok (.iconst 0, 1) := by decide +kernel
theorem dX0_init_14 : decode cX0_init 14 = .ok (.putfield 15, 3) := by decide +kernel
theorem dX0_init_17 : decode cX0_init 17 = .ok (.aload_n 0, 1) := by decide +kernel
theorem dX0_init_18 : decode cX0_init 18 = .ok (.iconst 0, 1) := by decide +kernel
theorem dX0_init_19 : decode cX0_init 19 = .ok (.putfield 19, 3) := by decide +kernel
theorem dX0_init_22 : decode cX0_init 22 = .ok (.aload_n 0, 1) := by decide +kernel
theorem dX0_init_23 : decode cX0_init 23 = .ok (.iconst 0, 1) := by decide +kernel
theorem dX0_init_24 : decode cX0_init 24 = .ok (.putfield 22, 3) := by decide +kernel
theorem dX0_init_27 : decode cX0_init 27 = .ok (.aload_n 0, 1) := by decide +kernel
theorem dX0_init_28 : decode cX0_init 28 = .ok (.iconst 0, 1) := by decide +kernel
theorem dX0_init_29 : decode cX0_init 29 = .ok (.putfield 25, 3) := by decide +kernel
theorem dX0_init_32 : decode cX0_init 32 = .ok (.return_, 1) := by decide +kernel
theorem dX0_forget_0 : decode cX0_forget 0 = .ok (.aload_n 0, 1) := by decide +kernel
theorem dX0_forget_1 : decode cX0_forget 1 = .ok (.iconst 0, 1) := by decide +kernel
theorem dX0_forget_2 : decode cX0_forget 2 = .ok (.putfield 25, 3) := by decide +kernel
theorem dX0_forget_5 : decode cX0_forget 5 = .ok (.return_, 1) := by decide +kernel
theorem dX0_bodyAt_0 : decode cX0_bodyAt 0 = .ok (.iload_n 1, 1) := by decide +kernel
theorem dX0_bodyAt_1 : decode cX0_bodyAt 1 = .ok (.ifCond .lt 26, 3) := by decide +kernel
theorem dX0_bodyAt_4 : decode cX0_bodyAt 4 = .ok (.iload_n 1, 1) := by decide +kernel
theorem dX0_bodyAt_5 : decode cX0_bodyAt 5 = .ok (.aload_n 0, 1) := by decide +kernel
theorem dX0_bodyAt_6 : decode cX0_bodyAt 6 = .ok (.getfield 25, 3) := by decide +kernel
theorem dX0_bodyAt_9 : decode cX0_bodyAt 9 = .ok (.if_icmp .ge 18, 3) := by decide +kernel
theorem dX0_bodyAt_12 : decode cX0_bodyAt 12 = .ok (.iload_n 1, 1) := by decide +kernel
theorem dX0_bodyAt_13 : decode cX0_bodyAt 13 = .ok (.bipush 20, 2) := by decide +kernel
theorem dX0_bodyAt_15 : decode cX0_bodyAt 15 = .ok (.if_icmp .ge 12, 3) := by decide +kernel
theorem dX0_bodyAt_18 : decode cX0_bodyAt 18 = .ok (.aload_n 0, 1) := by decide +kernel
theorem dX0_bodyAt_19 : decode cX0_bodyAt 19 = .ok (.getfield 9, 3) := by decide +kernel
theorem dX0_bodyAt_22 : decode cX0_bodyAt 22 = .ok (.iload_n 1, 1) := by decide +kernel
theorem dX0_bodyAt_23 : decode cX0_bodyAt 23 = .ok (.iaload, 1) := by decide +kernel
theorem dX0_bodyAt_24 : decode cX0_bodyAt 24 = .ok (.goto 4, 3) := by decide +kernel
theorem dX0_bodyAt_27 : decode cX0_bodyAt 27 = .ok (.iconst (-1), 1) := by decide +kernel
theorem dX0_bodyAt_28 : decode cX0_bodyAt 28 = .ok (.ireturn, 1) := by decide +kernel
theorem dX0_run_0 : decode cX0_run 0 = .ok (.aload_n 0, 1) := by decide +kernel
theorem dX0_run_1 : decode cX0_run 1 = .ok (.iload_n 1, 1) := by decide +kernel
theorem dX0_run_2 : decode cX0_run 2 = .ok (.putfield 15, 3) := by decide +kernel
theorem dX0_run_5 : decode cX0_run 5 = .ok (.aload_n 0, 1) := by decide +kernel
theorem dX0_run_6 : decode cX0_run 6 = .ok (.aload_n 2, 1) := by decide +kernel
theorem dX0_run_7 : decode cX0_run 7 = .ok (.getfield 28, 3) := by decide +kernel
theorem dX0_run_10 : decode cX0_run 10 = .ok (.putfield 19, 3) := by decide +kernel
theorem dX0_run_13 : decode cX0_run 13 = .ok (.aload_n 0, 1) := by decide +kernel
theorem dX0_run_14 : decode cX0_run 14 = .ok (.aload_n 2, 1) := by decide +kernel
theorem dX0_run_15 : decode cX0_run 15 = .ok (.getfield 33, 3) := by decide +kernel
theorem dX0_run_18 : decode cX0_run 18 = .ok (.putfield 22, 3) := by decide +kernel
theorem dX0_run_21 : decode cX0_run 21 = .ok (.iload_n 3, 1) := by decide +kernel
theorem dX0_run_22 : decode cX0_run 22 = .ok (.tableswitch 47 0 2 #[26, 33, 40], 26) := by decide +kernel
theorem dX0_run_48 : decode cX0_run 48 = .ok (.aload_n 0, 1) := by decide +kernel
theorem dX0_run_49 : decode cX0_run 49 = .ok (.iload 4, 2) := by decide +kernel
theorem dX0_run_51 : decode cX0_run 51 = .ok (.invokevirtual 34, 3) := by decide +kernel
theorem dX0_run_54 : decode cX0_run 54 = .ok (.ireturn, 1) := by decide +kernel
theorem dX0_run_55 : decode cX0_run 55 = .ok (.aload_n 0, 1) := by decide +kernel
theorem dX0_run_56 : decode cX0_run 56 = .ok (.iload 4, 2) := by decide +kernel
theorem dX0_run_58 : decode cX0_run 58 = .ok (.invokevirtual 38, 3) := by decide +kernel
theorem dX0_run_61 : decode cX0_run 61 = .ok (.ireturn, 1) := by decide +kernel
theorem dX0_run_62 : decode cX0_run 62 = .ok (.aload_n 0, 1) := by decide +kernel
theorem dX0_run_63 : decode cX0_run 63 = .ok (.iload 4, 2) := by decide +kernel
theorem dX0_run_65 : decode cX0_run 65 = .ok (.invokevirtual 41, 3) := by decide +kernel
theorem dX0_run_68 : decode cX0_run 68 = .ok (.ireturn, 1) := by decide +kernel
theorem dX0_run_69 : decode cX0_run 69 = .ok (.iconst 0, 1) := by decide +kernel
theorem dX0_run_70 : decode cX0_run 70 = .ok (.ireturn, 1) := by decide +kernel
theorem dX0_begin_0 : decode cX0_begin 0 = .ok (.aload_n 0, 1) := by decide +kernel
theorem dX0_begin_1 : decode cX0_begin 1 = .ok (.getfield 25, 3) := by decide +kernel
theorem dX0_begin_4 : decode cX0_begin 4 = .ok (.bipush 20, 2) := by decide +kernel
theorem dX0_begin_6 : decode cX0_begin 6 = .ok (.if_icmp .ge 13, 3) := by decide +kernel
theorem dX0_begin_9 : decode cX0_begin 9 = .ok (.aload_n 0, 1) := by decide +kernel
theorem dX0_begin_10 : decode cX0_begin 10 = .ok (.getfield 9, 3) := by decide +kernel
theorem dX0_begin_13 : decode cX0_begin 13 = .ok (.aload_n 0, 1) := by decide +kernel
theorem dX0_begin_14 : decode cX0_begin 14 = .ok (.getfield 25, 3) := by decide +kernel
theorem dX0_begin_17 : decode cX0_begin 17 = .ok (.iload_n 1, 1) := by decide +kernel
theorem dX0_begin_18 : decode cX0_begin 18 = .ok (.iastore, 1) := by decide +kernel
theorem dX0_begin_19 : decode cX0_begin 19 = .ok (.aload_n 0, 1) := by decide +kernel
theorem dX0_begin_20 : decode cX0_begin 20 = .ok (.dup, 1) := by decide +kernel
theorem dX0_begin_21 : decode cX0_begin 21 = .ok (.getfield 25, 3) := by decide +kernel
theorem dX0_begin_24 : decode cX0_begin 24 = .ok (.iconst 1, 1) := by decide +kernel
theorem dX0_begin_25 : decode cX0_begin 25 = .ok (.iadd, 1) := by decide +kernel
theorem dX0_begin_26 : decode cX0_begin 26 = .ok (.putfield 25, 3) := by decide +kernel
theorem dX0_begin_29 : decode cX0_begin 29 = .ok (.return_, 1) := by decide +kernel
theorem dX0_soundsWith_0 : decode cX0_soundsWith 0 = .ok (.aload_n 0, 1) := by decide +kernel
theorem dX0_soundsWith_1 : decode cX0_soundsWith 1 = .ok (.getfield 22, 3) := by decide +kernel
theorem dX0_soundsWith_4 : decode cX0_soundsWith 4 = .ok (.lookupswitch 107 #[(1, 36), (5, 86), (7, 57)], 36) := by decide +kernel
theorem dX0_soundsWith_40 : decode cX0_soundsWith 40 = .ok (.aload_n 0, 1) := by decide +kernel
theorem dX0_soundsWith_41 : decode cX0_soundsWith 41 = .ok (.bipush 20, 2) := by decide +kernel
theorem dX0_soundsWith_43 : decode cX0_soundsWith 43 = .ok (.invokevirtual 44, 3) := by decide +kernel
theorem dX0_soundsWith_46 : decode cX0_soundsWith 46 = .ok (.aload_n 0, 1) := by decide +kernel
theorem dX0_soundsWith_47 : decode cX0_soundsWith 47 = .ok (.bipush 10, 2) := by decide +kernel
theorem dX0_soundsWith_49 : decode cX0_soundsWith 49 = .ok (.invokevirtual 44, 3) := by decide +kernel
theorem dX0_soundsWith_52 : decode cX0_soundsWith 52 = .ok (.iload_n 1, 1) := by decide +kernel
theorem dX0_soundsWith_53 : decode cX0_soundsWith 53 = .ok (.aload_n 0, 1) := by decide +kernel
theorem dX0_soundsWith_54 : decode cX0_soundsWith 54 = .ok (.getfield 15, 3) := by decide +kernel
theorem dX0_soundsWith_57 : decode cX0_soundsWith 57 = .ok (.iadd, 1) := by decide +kernel
theorem dX0_soundsWith_58 : decode cX0_soundsWith 58 = .ok (.iconst 3, 1) := by decide +kernel
theorem dX0_soundsWith_59 : decode cX0_soundsWith 59 = .ok (.imul, 1) := by decide +kernel
theorem dX0_soundsWith_60 : decode cX0_soundsWith 60 = .ok (.ireturn, 1) := by decide +kernel
theorem dX0_soundsWith_61 : decode cX0_soundsWith 61 = .ok (.aload_n 0, 1) := by decide +kernel
theorem dX0_soundsWith_62 : decode cX0_soundsWith 62 = .ok (.bipush 80, 2) := by decide +kernel
theorem dX0_soundsWith_64 : decode cX0_soundsWith 64 = .ok (.invokevirtual 44, 3) := by decide +kernel
theorem dX0_soundsWith_67 : decode cX0_soundsWith 67 = .ok (.aload_n 0, 1) := by decide +kernel
theorem dX0_soundsWith_68 : decode cX0_soundsWith 68 = .ok (.bipush 20, 2) := by decide +kernel
theorem dX0_soundsWith_70 : decode cX0_soundsWith 70 = .ok (.invokevirtual 44, 3) := by decide +kernel
theorem dX0_soundsWith_73 : decode cX0_soundsWith 73 = .ok (.aload_n 0, 1) := by decide +kernel
theorem dX0_soundsWith_74 : decode cX0_soundsWith 74 = .ok (.bipush 10, 2) := by decide +kernel
theorem dX0_soundsWith_76 : decode cX0_soundsWith 76 = .ok (.invokevirtual 44, 3) := by decide +kernel
theorem dX0_soundsWith_79 : decode cX0_soundsWith 79 = .ok (.iload_n 1, 1) := by decide +kernel
theorem dX0_soundsWith_80 : decode cX0_soundsWith 80 = .ok (.iconst 1, 1) := by decide +kernel
theorem dX0_soundsWith_81 : decode cX0_soundsWith 81 = .ok (.isub, 1) := by decide +kernel
theorem dX0_soundsWith_82 : decode cX0_soundsWith 82 = .ok (.aload_n 0, 1) := by decide +kernel
theorem dX0_soundsWith_83 : decode cX0_soundsWith 83 = .ok (.getfield 15, 3) := by decide +kernel
theorem dX0_soundsWith_86 : decode cX0_soundsWith 86 = .ok (.iadd, 1) := by decide +kernel
theorem dX0_soundsWith_87 : decode cX0_soundsWith 87 = .ok (.iconst 3, 1) := by decide +kernel
theorem dX0_soundsWith_88 : decode cX0_soundsWith 88 = .ok (.imul, 1) := by decide +kernel
theorem dX0_soundsWith_89 : decode cX0_soundsWith 89 = .ok (.ireturn, 1) := by decide +kernel
theorem dX0_soundsWith_90 : decode cX0_soundsWith 90 = .ok (.aload_n 0, 1) := by decide +kernel
theorem dX0_soundsWith_91 : decode cX0_soundsWith 91 = .ok (.bipush 60, 2) := by decide +kernel
theorem dX0_soundsWith_93 : decode cX0_soundsWith 93 = .ok (.invokevirtual 44, 3) := by decide +kernel
theorem dX0_soundsWith_96 : decode cX0_soundsWith 96 = .ok (.aload_n 0, 1) := by decide +kernel
theorem dX0_soundsWith_97 : decode cX0_soundsWith 97 = .ok (.bipush 10, 2) := by decide +kernel
theorem dX0_soundsWith_99 : decode cX0_soundsWith 99 = .ok (.invokevirtual 44, 3) := by decide +kernel
theorem dX0_soundsWith_102 : decode cX0_soundsWith 102 = .ok (.iload_n 1, 1) := by decide +kernel
theorem dX0_soundsWith_103 : decode cX0_soundsWith 103 = .ok (.aload_n 0, 1) := by decide +kernel
theorem dX0_soundsWith_104 : decode cX0_soundsWith 104 = .ok (.getfield 15, 3) := by decide +kernel
theorem dX0_soundsWith_107 : decode cX0_soundsWith 107 = .ok (.iadd, 1) := by decide +kernel
theorem dX0_soundsWith_108 : decode cX0_soundsWith 108 = .ok (.iconst 5, 1) := by decide +kernel
theorem dX0_soundsWith_109 : decode cX0_soundsWith 109 = .ok (.ixor, 1) := by decide +kernel
theorem dX0_soundsWith_110 : decode cX0_soundsWith 110 = .ok (.ireturn, 1) := by decide +kernel
theorem dX0_soundsWith_111 : decode cX0_soundsWith 111 = .ok (.aload_n 0, 1) := by decide +kernel
theorem dX0_soundsWith_112 : decode cX0_soundsWith 112 = .ok (.bipush 10, 2) := by decide +kernel
theorem dX0_soundsWith_114 : decode cX0_soundsWith 114 = .ok (.invokevirtual 44, 3) := by decide +kernel
theorem dX0_soundsWith_117 : decode cX0_soundsWith 117 = .ok (.iload_n 1, 1) := by decide +kernel
theorem dX0_soundsWith_118 : decode cX0_soundsWith 118 = .ok (.aload_n 0, 1) := by decide +kernel
theorem dX0_soundsWith_119 : decode cX0_soundsWith 119 = .ok (.getfield 15, 3) := by decide +kernel
theorem dX0_soundsWith_122 : decode cX0_soundsWith 122 = .ok (.iadd, 1) := by decide +kernel
theorem dX0_soundsWith_123 : decode cX0_soundsWith 123 = .ok (.ireturn, 1) := by decide +kernel
theorem dX0_reachesWith_0 : decode cX0_reachesWith 0 = .ok (.aload_n 0, 1) := by decide +kernel
theorem dX0_reachesWith_1 : decode cX0_reachesWith 1 = .ok (.getfield 22, 3) := by decide +kernel
theorem dX0_reachesWith_4 : decode cX0_reachesWith 4 = .ok (.lookupswitch 82 #[(2, 36), (3, 53), (7, 67)], 36) := by decide +kernel
theorem dX0_reachesWith_40 : decode cX0_reachesWith 40 = .ok (.aload_n 0, 1) := by decide +kernel
theorem dX0_reachesWith_41 : decode cX0_reachesWith 41 = .ok (.bipush 30, 2) := by decide +kernel
theorem dX0_reachesWith_43 : decode cX0_reachesWith 43 = .ok (.invokevirtual 44, 3) := by decide +kernel
theorem dX0_reachesWith_46 : decode cX0_reachesWith 46 = .ok (.aload_n 0, 1) := by decide +kernel
theorem dX0_reachesWith_47 : decode cX0_reachesWith 47 = .ok (.iload_n 1, 1) := by decide +kernel
theorem dX0_reachesWith_48 : decode cX0_reachesWith 48 = .ok (.invokevirtual 48, 3) := by decide +kernel
theorem dX0_reachesWith_51 : decode cX0_reachesWith 51 = .ok (.aload_n 0, 1) := by decide +kernel
theorem dX0_reachesWith_52 : decode cX0_reachesWith 52 = .ok (.getfield 19, 3) := by decide +kernel
theorem dX0_reachesWith_55 : decode cX0_reachesWith 55 = .ok (.iadd, 1) := by decide +kernel
theorem dX0_reachesWith_56 : decode cX0_reachesWith 56 = .ok (.ireturn, 1) := by decide +kernel
theorem dX0_reachesWith_57 : decode cX0_reachesWith 57 = .ok (.aload_n 0, 1) := by decide +kernel
theorem dX0_reachesWith_58 : decode cX0_reachesWith 58 = .ok (.bipush 40, 2) := by decide +kernel
theorem dX0_reachesWith_60 : decode cX0_reachesWith 60 = .ok (.invokevirtual 44, 3) := by decide +kernel
theorem dX0_reachesWith_63 : decode cX0_reachesWith 63 = .ok (.aload_n 0, 1) := by decide +kernel
theorem dX0_reachesWith_64 : decode cX0_reachesWith 64 = .ok (.iload_n 1, 1) := by decide +kernel
theorem dX0_reachesWith_65 : decode cX0_reachesWith 65 = .ok (.iconst 1, 1) := by decide +kernel
theorem dX0_reachesWith_66 : decode cX0_reachesWith 66 = .ok (.iadd, 1) := by decide +kernel
theorem dX0_reachesWith_67 : decode cX0_reachesWith 67 = .ok (.invokevirtual 48, 3) := by decide +kernel
theorem dX0_reachesWith_70 : decode cX0_reachesWith 70 = .ok (.ireturn, 1) := by decide +kernel
theorem dX0_reachesWith_71 : decode cX0_reachesWith 71 = .ok (.aload_n 0, 1) := by decide +kernel
theorem dX0_reachesWith_72 : decode cX0_reachesWith 72 = .ok (.bipush 81, 2) := by decide +kernel
theorem dX0_reachesWith_74 : decode cX0_reachesWith 74 = .ok (.invokevirtual 44, 3) := by decide +kernel
theorem dX0_reachesWith_77 : decode cX0_reachesWith 77 = .ok (.aload_n 0, 1) := by decide +kernel
theorem dX0_reachesWith_78 : decode cX0_reachesWith 78 = .ok (.iload_n 1, 1) := by decide +kernel
theorem dX0_reachesWith_79 : decode cX0_reachesWith 79 = .ok (.invokevirtual 48, 3) := by decide +kernel
theorem dX0_reachesWith_82 : decode cX0_reachesWith 82 = .ok (.bipush 9, 2) := by decide +kernel
theorem dX0_reachesWith_84 : decode cX0_reachesWith 84 = .ok (.iadd, 1) := by decide +kernel
theorem dX0_reachesWith_85 : decode cX0_reachesWith 85 = .ok (.ireturn, 1) := by decide +kernel
theorem dX0_reachesWith_86 : decode cX0_reachesWith 86 = .ok (.aload_n 0, 1) := by decide +kernel
theorem dX0_reachesWith_87 : decode cX0_reachesWith 87 = .ok (.iload_n 1, 1) := by decide +kernel
theorem dX0_reachesWith_88 : decode cX0_reachesWith 88 = .ok (.invokevirtual 48, 3) := by decide +kernel
theorem dX0_reachesWith_91 : decode cX0_reachesWith 91 = .ok (.ireturn, 1) := by decide +kernel
theorem dX0_reachesOfHum_0 : decode cX0_reachesOfHum 0 = .ok (.aload_n 0, 1) := by decide +kernel
theorem dX0_reachesOfHum_1 : decode cX0_reachesOfHum 1 = .ok (.bipush 11, 2) := by decide +kernel
theorem dX0_reachesOfHum_3 : decode cX0_reachesOfHum 3 = .ok (.invokevirtual 44, 3) := by decide +kernel
theorem dX0_reachesOfHum_6 : decode cX0_reachesOfHum 6 = .ok (.aload_n 0, 1) := by decide +kernel
theorem dX0_reachesOfHum_7 : decode cX0_reachesOfHum 7 = .ok (.iload_n 1, 1) := by decide +kernel
theorem dX0_reachesOfHum_8 : decode cX0_reachesOfHum 8 = .ok (.invokevirtual 34, 3) := by decide +kernel
theorem dX0_reachesOfHum_11 : decode cX0_reachesOfHum 11 = .ok (.iconst 2, 1) := by decide +kernel
theorem dX0_reachesOfHum_12 : decode cX0_reachesOfHum 12 = .ok (.imul, 1) := by decide +kernel
theorem dX0_reachesOfHum_13 : decode cX0_reachesOfHum 13 = .ok (.ireturn, 1) := by decide +kernel
theorem dX0_hearsWith_0 : decode cX0_hearsWith 0 = .ok (.aload_n 0, 1) := by decide +kernel
theorem dX0_hearsWith_1 : decode cX0_hearsWith 1 = .ok (.getfield 22, 3) := by decide +kernel
theorem dX0_hearsWith_4 : decode cX0_hearsWith 4 = .ok (.tableswitch 76 3 6 #[32, 45, 76, 62], 32) := by decide +kernel
theorem dX0_hearsWith_36 : decode cX0_hearsWith 36 = .ok (.aload_n 0, 1) := by decide +kernel
theorem dX0_hearsWith_37 : decode cX0_hearsWith 37 = .ok (.bipush 41, 2) := by decide +kernel
theorem dX0_hearsWith_39 : decode cX0_hearsWith 39 = .ok (.invokevirtual 44, 3) := by decide +kernel
theorem dX0_hearsWith_42 : decode cX0_hearsWith 42 = .ok (.aload_n 0, 1) := by decide +kernel
theorem dX0_hearsWith_43 : decode cX0_hearsWith 43 = .ok (.iload_n 1, 1) := by decide +kernel
theorem dX0_hearsWith_44 : decode cX0_hearsWith 44 = .ok (.invokevirtual 51, 3) := by decide +kernel
theorem dX0_hearsWith_47 : decode cX0_hearsWith 47 = .ok (.ineg, 1) := by decide +kernel
theorem dX0_hearsWith_48 : decode cX0_hearsWith 48 = .ok (.ireturn, 1) := by decide +kernel
theorem dX0_hearsWith_49 : decode cX0_hearsWith 49 = .ok (.aload_n 0, 1) := by decide +kernel
theorem dX0_hearsWith_50 : decode cX0_hearsWith 50 = .ok (.bipush 50, 2) := by decide +kernel
theorem dX0_hearsWith_52 : decode cX0_hearsWith 52 = .ok (.invokevirtual 44, 3) := by decide +kernel
theorem dX0_hearsWith_55 : decode cX0_hearsWith 55 = .ok (.aload_n 0, 1) := by decide +kernel
theorem dX0_hearsWith_56 : decode cX0_hearsWith 56 = .ok (.iload_n 1, 1) := by decide +kernel
theorem dX0_hearsWith_57 : decode cX0_hearsWith 57 = .ok (.invokevirtual 51, 3) := by decide +kernel
theorem dX0_hearsWith_60 : decode cX0_hearsWith 60 = .ok (.aload_n 0, 1) := by decide +kernel
theorem dX0_hearsWith_61 : decode cX0_hearsWith 61 = .ok (.getfield 15, 3) := by decide +kernel
theorem dX0_hearsWith_64 : decode cX0_hearsWith 64 = .ok (.isub, 1) := by decide +kernel
theorem dX0_hearsWith_65 : decode cX0_hearsWith 65 = .ok (.ireturn, 1) := by decide +kernel
theorem dX0_hearsWith_66 : decode cX0_hearsWith 66 = .ok (.aload_n 0, 1) := by decide +kernel
theorem dX0_hearsWith_67 : decode cX0_hearsWith 67 = .ok (.bipush 70, 2) := by decide +kernel
theorem dX0_hearsWith_69 : decode cX0_hearsWith 69 = .ok (.invokevirtual 44, 3) := by decide +kernel
theorem dX0_hearsWith_72 : decode cX0_hearsWith 72 = .ok (.aload_n 0, 1) := by decide +kernel
theorem dX0_hearsWith_73 : decode cX0_hearsWith 73 = .ok (.iload_n 1, 1) := by decide +kernel
theorem dX0_hearsWith_74 : decode cX0_hearsWith 74 = .ok (.invokevirtual 51, 3) := by decide +kernel
theorem dX0_hearsWith_77 : decode cX0_hearsWith 77 = .ok (.iconst 2, 1) := by decide +kernel
theorem dX0_hearsWith_78 : decode cX0_hearsWith 78 = .ok (.imul, 1) := by decide +kernel
theorem dX0_hearsWith_79 : decode cX0_hearsWith 79 = .ok (.ireturn, 1) := by decide +kernel
theorem dX0_hearsWith_80 : decode cX0_hearsWith 80 = .ok (.aload_n 0, 1) := by decide +kernel
theorem dX0_hearsWith_81 : decode cX0_hearsWith 81 = .ok (.iload_n 1, 1) := by decide +kernel
theorem dX0_hearsWith_82 : decode cX0_hearsWith 82 = .ok (.invokevirtual 51, 3) := by decide +kernel
theorem dX0_hearsWith_85 : decode cX0_hearsWith 85 = .ok (.ireturn, 1) := by decide +kernel
theorem dX0_hearsOfHum_0 : decode cX0_hearsOfHum 0 = .ok (.aload_n 0, 1) := by decide +kernel
theorem dX0_hearsOfHum_1 : decode cX0_hearsOfHum 1 = .ok (.bipush 12, 2) := by decide +kernel
theorem dX0_hearsOfHum_3 : decode cX0_hearsOfHum 3 = .ok (.invokevirtual 44, 3) := by decide +kernel
theorem dX0_hearsOfHum_6 : decode cX0_hearsOfHum 6 = .ok (.aload_n 0, 1) := by decide +kernel
theorem dX0_hearsOfHum_7 : decode cX0_hearsOfHum 7 = .ok (.iload_n 1, 1) := by decide +kernel
theorem dX0_hearsOfHum_8 : decode cX0_hearsOfHum 8 = .ok (.invokevirtual 38, 3) := by decide +kernel
theorem dX0_hearsOfHum_11 : decode cX0_hearsOfHum 11 = .ok (.istore_n 2, 1) := by decide +kernel
theorem dX0_hearsOfHum_12 : decode cX0_hearsOfHum 12 = .ok (.iload_n 2, 1) := by decide +kernel
theorem dX0_hearsOfHum_13 : decode cX0_hearsOfHum 13 = .ok (.aload_n 0, 1) := by decide +kernel
theorem dX0_hearsOfHum_14 : decode cX0_hearsOfHum 14 = .ok (.iload_n 1, 1) := by decide +kernel
theorem dX0_hearsOfHum_15 : decode cX0_hearsOfHum 15 = .ok (.aload_n 0, 1) := by decide +kernel
theorem dX0_hearsOfHum_16 : decode cX0_hearsOfHum 16 = .ok (.getfield 19, 3) := by decide +kernel
theorem dX0_hearsOfHum_19 : decode cX0_hearsOfHum 19 = .ok (.isub, 1) := by decide +kernel
theorem dX0_hearsOfHum_20 : decode cX0_hearsOfHum 20 = .ok (.invokevirtual 34, 3) := by decide +kernel
theorem dX0_hearsOfHum_23 : decode cX0_hearsOfHum 23 = .ok (.ixor, 1) := by decide +kernel
theorem dX0_hearsOfHum_24 : decode cX0_hearsOfHum 24 = .ok (.ireturn, 1) := by decide +kernel
theorem dX1_init_0 : decode cX1_init 0 = .ok (.aload_n 0, 1) := by decide +kernel
theorem dX1_init_1 : decode cX1_init 1 = .ok (.invokespecial 3, 3) := by decide +kernel
theorem dX1_init_4 : decode cX1_init 4 = .ok (.aload_n 0, 1) := by decide +kernel
theorem dX1_init_5 : decode cX1_init 5 = .ok (.iconst 0, 1) := by decide +kernel
theorem dX1_init_6 : decode cX1_init 6 = .ok (.putfield 9, 3) := by decide +kernel
theorem dX1_init_9 : decode cX1_init 9 = .ok (.aload_n 0, 1) := by decide +kernel
theorem dX1_init_10 : decode cX1_init 10 = .ok (.iconst 0, 1) := by decide +kernel
theorem dX1_init_11 : decode cX1_init 11 = .ok (.putfield 15, 3) := by decide +kernel
theorem dX1_init_14 : decode cX1_init 14 = .ok (.aload_n 0, 1) := by decide +kernel
theorem dX1_init_15 : decode cX1_init 15 = .ok (.iconst 0, 1) := by decide +kernel
theorem dX1_init_16 : decode cX1_init 16 = .ok (.putfield 18, 3) := by decide +kernel
theorem dX1_init_19 : decode cX1_init 19 = .ok (.aload_n 0, 1) := by decide +kernel
theorem dX1_init_20 : decode cX1_init 20 = .ok (.bipush 80, 2) := by decide +kernel
theorem dX1_init_22 : decode cX1_init 22 = .ok (.newarray .int, 2) := by decide +kernel
theorem dX1_init_24 : decode cX1_init 24 = .ok (.putfield 21, 3) := by decide +kernel
theorem dX1_init_27 : decode cX1_init 27 = .ok (.aload_n 0, 1) := by decide +kernel
theorem dX1_init_28 : decode cX1_init 28 = .ok (.bipush 80, 2) := by decide +kernel
theorem dX1_init_30 : decode cX1_init 30 = .ok (.newarray .int, 2) := by decide +kernel
theorem dX1_init_32 : decode cX1_init 32 = .ok (.putfield 25, 3) := by decide +kernel
theorem dX1_init_35 : decode cX1_init 35 = .ok (.aload_n 0, 1) := by decide +kernel
theorem dX1_init_36 : decode cX1_init 36 = .ok (.bipush 80, 2) := by decide +kernel
theorem dX1_init_38 : decode cX1_init 38 = .ok (.newarray .int, 2) := by decide +kernel
theorem dX1_init_40 : decode cX1_init 40 = .ok (.putfield 28, 3) := by decide +kernel
theorem dX1_init_43 : decode cX1_init 43 = .ok (.aload_n 0, 1) := by decide +kernel
theorem dX1_init_44 : decode cX1_init 44 = .ok (.bipush 80, 2) := by decide +kernel
theorem dX1_init_46 : decode cX1_init 46 = .ok (.newarray .int, 2) := by decide +kernel
theorem dX1_init_48 : decode cX1_init 48 = .ok (.putfield 31, 3) := by decide +kernel
theorem dX1_init_51 : decode cX1_init 51 = .ok (.return_, 1) := by decide +kernel
theorem dX1_addPress_0 : decode cX1_addPress 0 = .ok (.aload_n 0, 1) := by decide +kernel
theorem dX1_addPress_1 : decode cX1_addPress 1 = .ok (.getfield 15, 3) := by decide +kernel
theorem dX1_addPress_4 : decode cX1_addPress 4 = .ok (.bipush 60, 2) := by decide +kernel
theorem dX1_addPress_6 : decode cX1_addPress 6 = .ok (.if_icmp .ge 30, 3) := by decide +kernel
theorem dX1_addPress_9 : decode cX1_addPress 9 = .ok (.aload_n 0, 1) := by decide +kernel
theorem dX1_addPress_10 : decode cX1_addPress 10 = .ok (.dup, 1) := by decide +kernel
theorem dX1_addPress_11 : decode cX1_addPress 11 = .ok (.getfield 15, 3) := by decide +kernel
theorem dX1_addPress_14 : decode cX1_addPress 14 = .ok (.iconst 1, 1) := by decide +kernel
theorem dX1_addPress_15 : decode cX1_addPress 15 = .ok (.iadd, 1) := by decide +kernel
theorem dX1_addPress_16 : decode cX1_addPress 16 = .ok (.putfield 15, 3) := by decide +kernel
theorem dX1_addPress_19 : decode cX1_addPress 19 = .ok (.aload_n 0, 1) := by decide +kernel
theorem dX1_addPress_20 : decode cX1_addPress 20 = .ok (.iload_n 1, 1) := by decide +kernel
theorem dX1_addPress_21 : decode cX1_addPress 21 = .ok (.iload_n 2, 1) := by decide +kernel
theorem dX1_addPress_22 : decode cX1_addPress 22 = .ok (.iload_n 3, 1) := by decide +kernel
theorem dX1_addPress_23 : decode cX1_addPress 23 = .ok (.iload 4, 2) := by decide +kernel
theorem dX1_addPress_25 : decode cX1_addPress 25 = .ok (.ifCond .eq 7, 3) := by decide +kernel
theorem dX1_addPress_28 : decode cX1_addPress 28 = .ok (.iconst 1, 1) := by decide +kernel
theorem dX1_addPress_29 : decode cX1_addPress 29 = .ok (.goto 4, 3) := by decide +kernel
theorem dX1_addPress_32 : decode cX1_addPress 32 = .ok (.iconst 0, 1) := by decide +kernel
theorem dX1_addPress_33 : decode cX1_addPress 33 = .ok (.invokevirtual 34, 3) := by decide +kernel
theorem dX1_addPress_36 : decode cX1_addPress 36 = .ok (.return_, 1) := by decide +kernel
theorem dX1_addMatch_0 : decode cX1_addMatch 0 = .ok (.aload_n 0, 1) := by decide +kernel
theorem dX1_addMatch_1 : decode cX1_addMatch 1 = .ok (.getfield 18, 3) := by decide +kernel
theorem dX1_addMatch_4 : decode cX1_addMatch 4 = .ok (.bipush 20, 2) := by decide +kernel
theorem dX1_addMatch_6 : decode cX1_addMatch 6 = .ok (.if_icmp .ge 21, 3) := by decide +kernel
theorem dX1_addMatch_9 : decode cX1_addMatch 9 = .ok (.aload_n 0, 1) := by decide +kernel
theorem dX1_addMatch_10 : decode cX1_addMatch 10 = .ok (.dup, 1) := by decide +kernel
theorem dX1_addMatch_11 : decode cX1_addMatch 11 = .ok (.getfield 18, 3) := by decide +kernel
theorem dX1_addMatch_14 : decode cX1_addMatch 14 = .ok (.iconst 1, 1) := by decide +kernel
theorem dX1_addMatch_15 : decode cX1_addMatch 15 = .ok (.iadd, 1) := by decide +kernel
theorem dX1_addMatch_16 : decode cX1_addMatch 16 = .ok (.putfield 18, 3) := by decide +kernel
theorem dX1_addMatch_19 : decode cX1_addMatch 19 = .ok (.aload_n 0, 1) := by decide +kernel
theorem dX1_addMatch_20 : decode cX1_addMatch 20 = .ok (.iload_n 1, 1) := by decide +kernel
theorem dX1_addMatch_21 : decode cX1_addMatch 21 = .ok (.iconst (-1), 1) := by decide +kernel
theorem dX1_addMatch_22 : decode cX1_addMatch 22 = .ok (.iconst 0, 1) := by decide +kernel
theorem dX1_addMatch_23 : decode cX1_addMatch 23 = .ok (.iload_n 2, 1) := by decide +kernel
theorem dX1_addMatch_24 : decode cX1_addMatch 24 = .ok (.invokevirtual 34, 3) := by decide +kernel
theorem dX1_addMatch_27 : decode cX1_addMatch 27 = .ok (.return_, 1) := by decide +kernel
theorem dX1_add_0 : decode cX1_add 0 = .ok (.aload_n 0, 1) := by decide +kernel
theorem dX1_add_1 : decode cX1_add 1 = .ok (.getfield 9, 3) := by decide +kernel
theorem dX1_add_4 : decode cX1_add 4 = .ok (.bipush 80, 2) := by decide +kernel
theorem dX1_add_6 : decode cX1_add 6 = .ok (.if_icmp .ge 54, 3) := by decide +kernel
theorem dX1_add_9 : decode cX1_add 9 = .ok (.aload_n 0, 1) := by decide +kernel
theorem dX1_add_10 : decode cX1_add 10 = .ok (.getfield 21, 3) := by decide +kernel
theorem dX1_add_13 : decode cX1_add 13 = .ok (.aload_n 0, 1) := by decide +kernel
theorem dX1_add_14 : decode cX1_add 14 = .ok (.getfield 9, 3) := by decide +kernel
theorem dX1_add_17 : decode cX1_add 17 = .ok (.iload_n 1, 1) := by decide +kernel
theorem dX1_add_18 : decode cX1_add 18 = .ok (.iastore, 1) := by decide +kernel
theorem dX1_add_19 : decode cX1_add 19 = .ok (.aload_n 0, 1) := by decide +kernel
theorem dX1_add_20 : decode cX1_add 20 = .ok (.getfield 25, 3) := by decide +kernel
theorem dX1_add_23 : decode cX1_add 23 = .ok (.aload_n 0, 1) := by decide +kernel
theorem dX1_add_24 : decode cX1_add 24 = .ok (.getfield 9, 3) := by decide +kernel
theorem dX1_add_27 : decode cX1_add 27 = .ok (.iload_n 2, 1) := by decide +kernel
theorem dX1_add_28 : decode cX1_add 28 = .ok (.iastore, 1) := by decide +kernel
theorem dX1_add_29 : decode cX1_add 29 = .ok (.aload_n 0, 1) := by decide +kernel
theorem dX1_add_30 : decode cX1_add 30 = .ok (.getfield 28, 3) := by decide +kernel
theorem dX1_add_33 : decode cX1_add 33 = .ok (.aload_n 0, 1) := by decide +kernel
theorem dX1_add_34 : decode cX1_add 34 = .ok (.getfield 9, 3) := by decide +kernel
theorem dX1_add_37 : decode cX1_add 37 = .ok (.iload_n 3, 1) := by decide +kernel
theorem dX1_add_38 : decode cX1_add 38 = .ok (.iastore, 1) := by decide +kernel
theorem dX1_add_39 : decode cX1_add 39 = .ok (.aload_n 0, 1) := by decide +kernel
theorem dX1_add_40 : decode cX1_add 40 = .ok (.getfield 31, 3) := by decide +kernel
theorem dX1_add_43 : decode cX1_add 43 = .ok (.aload_n 0, 1) := by decide +kernel
theorem dX1_add_44 : decode cX1_add 44 = .ok (.getfield 9, 3) := by decide +kernel
theorem dX1_add_47 : decode cX1_add 47 = .ok (.iload 4, 2) := by decide +kernel
theorem dX1_add_49 : decode cX1_add 49 = .ok (.iastore, 1) := by decide +kernel
theorem dX1_add_50 : decode cX1_add 50 = .ok (.aload_n 0, 1) := by decide +kernel
theorem dX1_add_51 : decode cX1_add 51 = .ok (.dup, 1) := by decide +kernel
theorem dX1_add_52 : decode cX1_add 52 = .ok (.getfield 9, 3) := by decide +kernel
theorem dX1_add_55 : decode cX1_add 55 = .ok (.iconst 1, 1) := by decide +kernel
theorem dX1_add_56 : decode cX1_add 56 = .ok (.iadd, 1) := by decide +kernel
theorem dX1_add_57 : decode cX1_add 57 = .ok (.putfield 9, 3) := by decide +kernel
theorem dX1_add_60 : decode cX1_add 60 = .ok (.return_, 1) := by decide +kernel
theorem dX1_isMatch_0 : decode cX1_isMatch 0 = .ok (.aload_n 0, 1) := by decide +kernel
theorem dX1_isMatch_1 : decode cX1_isMatch 1 = .ok (.getfield 25, 3) := by decide +kernel
theorem dX1_isMatch_4 : decode cX1_isMatch 4 = .ok (.iload_n 1, 1) := by decide +kernel
theorem dX1_isMatch_5 : decode cX1_isMatch 5 = .ok (.iaload, 1) := by decide +kernel
theorem dX1_isMatch_6 : decode cX1_isMatch 6 = .ok (.iconst (-1), 1) := by decide +kernel
theorem dX1_isMatch_7 : decode cX1_isMatch 7 = .ok (.if_icmp .ne 7, 3) := by decide +kernel
theorem dX1_isMatch_10 : decode cX1_isMatch 10 = .ok (.iconst 1, 1) := by decide +kernel
theorem dX1_isMatch_11 : decode cX1_isMatch 11 = .ok (.goto 4, 3) := by decide +kernel
theorem dX1_isMatch_14 : decode cX1_isMatch 14 = .ok (.iconst 0, 1) := by decide +kernel
theorem dX1_isMatch_15 : decode cX1_isMatch 15 = .ok (.ireturn, 1) := by decide +kernel
theorem dX1_becomeLike_0 : decode cX1_becomeLike 0 = .ok (.aload_n 0, 1) := by decide +kernel
theorem dX1_becomeLike_1 : decode cX1_becomeLike 1 = .ok (.aload_n 1, 1) := by decide +kernel
theorem dX1_becomeLike_2 : decode cX1_becomeLike 2 = .ok (.getfield 9, 3) := by decide +kernel
theorem dX1_becomeLike_5 : decode cX1_becomeLike 5 = .ok (.putfield 9, 3) := by decide +kernel
theorem dX1_becomeLike_8 : decode cX1_becomeLike 8 = .ok (.aload_n 0, 1) := by decide +kernel
theorem dX1_becomeLike_9 : decode cX1_becomeLike 9 = .ok (.aload_n 1, 1) := by decide +kernel
theorem dX1_becomeLike_10 : decode cX1_becomeLike 10 = .ok (.getfield 15, 3) := by decide +kernel
theorem dX1_becomeLike_13 : decode cX1_becomeLike 13 = .ok (.putfield 15, 3) := by decide +kernel
theorem dX1_becomeLike_16 : decode cX1_becomeLike 16 = .ok (.aload_n 0, 1) := by decide +kernel
theorem dX1_becomeLike_17 : decode cX1_becomeLike 17 = .ok (.aload_n 1, 1) := by decide +kernel
theorem dX1_becomeLike_18 : decode cX1_becomeLike 18 = .ok (.getfield 18, 3) := by decide +kernel
theorem dX1_becomeLike_21 : decode cX1_becomeLike 21 = .ok (.putfield 18, 3) := by decide +kernel
theorem dX1_becomeLike_24 : decode cX1_becomeLike 24 = .ok (.aload_n 1, 1) := by decide +kernel
theorem dX1_becomeLike_25 : decode cX1_becomeLike 25 = .ok (.getfield 21, 3) := by decide +kernel
theorem dX1_becomeLike_28 : decode cX1_becomeLike 28 = .ok (.iconst 0, 1) := by decide +kernel
theorem dX1_becomeLike_29 : decode cX1_becomeLike 29 = .ok (.aload_n 0, 1) := by decide +kernel
theorem dX1_becomeLike_30 : decode cX1_becomeLike 30 = .ok (.getfield 21, 3) := by decide +kernel
theorem dX1_becomeLike_33 : decode cX1_becomeLike 33 = .ok (.iconst 0, 1) := by decide +kernel
theorem dX1_becomeLike_34 : decode cX1_becomeLike 34 = .ok (.bipush 80, 2) := by decide +kernel
theorem dX1_becomeLike_36 : decode cX1_becomeLike 36 = .ok (.invokestatic 38, 3) := by decide +kernel
theorem dX1_becomeLike_39 : decode cX1_becomeLike 39 = .ok (.aload_n 1, 1) := by decide +kernel
theorem dX1_becomeLike_40 : decode cX1_becomeLike 40 = .ok (.getfield 25, 3) := by decide +kernel
theorem dX1_becomeLike_43 : decode cX1_becomeLike 43 = .ok (.iconst 0, 1) := by decide +kernel
theorem dX1_becomeLike_44 : decode cX1_becomeLike 44 = .ok (.aload_n 0, 1) := by decide +kernel
theorem dX1_becomeLike_45 : decode cX1_becomeLike 45 = .ok (.getfield 25, 3) := by decide +kernel
theorem dX1_becomeLike_48 : decode cX1_becomeLike 48 = .ok (.iconst 0, 1) := by decide +kernel
theorem dX1_becomeLike_49 : decode cX1_becomeLike 49 = .ok (.bipush 80, 2) := by decide +kernel
theorem dX1_becomeLike_51 : decode cX1_becomeLike 51 = .ok (.invokestatic 38, 3) := by decide +kernel
theorem dX1_becomeLike_54 : decode cX1_becomeLike 54 = .ok (.aload_n 1, 1) := by decide +kernel
theorem dX1_becomeLike_55 : decode cX1_becomeLike 55 = .ok (.getfield 28, 3) := by decide +kernel
theorem dX1_becomeLike_58 : decode cX1_becomeLike 58 = .ok (.iconst 0, 1) := by decide +kernel
theorem dX1_becomeLike_59 : decode cX1_becomeLike 59 = .ok (.aload_n 0, 1) := by decide +kernel
theorem dX1_becomeLike_60 : decode cX1_becomeLike 60 = .ok (.getfield 28, 3) := by decide +kernel
theorem dX1_becomeLike_63 : decode cX1_becomeLike 63 = .ok (.iconst 0, 1) := by decide +kernel
theorem dX1_becomeLike_64 : decode cX1_becomeLike 64 = .ok (.bipush 80, 2) := by decide +kernel
theorem dX1_becomeLike_66 : decode cX1_becomeLike 66 = .ok (.invokestatic 38, 3) := by decide +kernel
theorem dX1_becomeLike_69 : decode cX1_becomeLike 69 = .ok (.aload_n 1, 1) := by decide +kernel
theorem dX1_becomeLike_70 : decode cX1_becomeLike 70 = .ok (.getfield 31, 3) := by decide +kernel
theorem dX1_becomeLike_73 : decode cX1_becomeLike 73 = .ok (.iconst 0, 1) := by decide +kernel
theorem dX1_becomeLike_74 : decode cX1_becomeLike 74 = .ok (.aload_n 0, 1) := by decide +kernel
theorem dX1_becomeLike_75 : decode cX1_becomeLike 75 = .ok (.getfield 31, 3) := by decide +kernel
theorem dX1_becomeLike_78 : decode cX1_becomeLike 78 = .ok (.iconst 0, 1) := by decide +kernel
theorem dX1_becomeLike_79 : decode cX1_becomeLike 79 = .ok (.bipush 80, 2) := by decide +kernel
theorem dX1_becomeLike_81 : decode cX1_becomeLike 81 = .ok (.invokestatic 38, 3) := by decide +kernel
theorem dX1_becomeLike_84 : decode cX1_becomeLike 84 = .ok (.return_, 1) := by decide +kernel
theorem dX2_init_0 : decode cX2_init 0 = .ok (.aload_n 0, 1) := by decide +kernel
theorem dX2_init_1 : decode cX2_init 1 = .ok (.invokespecial 3, 3) := by decide +kernel
theorem dX2_init_4 : decode cX2_init 4 = .ok (.aload_n 0, 1) := by decide +kernel
theorem dX2_init_5 : decode cX2_init 5 = .ok (.iconst 0, 1) := by decide +kernel
theorem dX2_init_6 : decode cX2_init 6 = .ok (.putfield 9, 3) := by decide +kernel
theorem dX2_init_9 : decode cX2_init 9 = .ok (.aload_n 0, 1) := by decide +kernel
theorem dX2_init_10 : decode cX2_init 10 = .ok (.bipush 30, 2) := by decide +kernel
theorem dX2_init_12 : decode cX2_init 12 = .ok (.newarray .int, 2) := by decide +kernel
theorem dX2_init_14 : decode cX2_init 14 = .ok (.putfield 15, 3) := by decide +kernel
theorem dX2_init_17 : decode cX2_init 17 = .ok (.aload_n 0, 1) := by decide +kernel
theorem dX2_init_18 : decode cX2_init 18 = .ok (.bipush 30, 2) := by decide +kernel
theorem dX2_init_20 : decode cX2_init 20 = .ok (.newarray .int, 2) := by decide +kernel
theorem dX2_init_22 : decode cX2_init 22 = .ok (.putfield 19, 3) := by decide +kernel
theorem dX2_init_25 : decode cX2_init 25 = .ok (.aload_n 0, 1) := by decide +kernel
theorem dX2_init_26 : decode cX2_init 26 = .ok (.bipush 30, 2) := by decide +kernel
theorem dX2_init_28 : decode cX2_init 28 = .ok (.newarray .int, 2) := by decide +kernel
theorem dX2_init_30 : decode cX2_init 30 = .ok (.putfield 22, 3) := by decide +kernel
theorem dX2_init_33 : decode cX2_init 33 = .ok (.return_, 1) := by decide +kernel
theorem dX2_add_0 : decode cX2_add 0 = .ok (.aload_n 0, 1) := by decide +kernel
theorem dX2_add_1 : decode cX2_add 1 = .ok (.getfield 9, 3) := by decide +kernel
theorem dX2_add_4 : decode cX2_add 4 = .ok (.bipush 30, 2) := by decide +kernel
theorem dX2_add_6 : decode cX2_add 6 = .ok (.if_icmp .ge 43, 3) := by decide +kernel
theorem dX2_add_9 : decode cX2_add 9 = .ok (.aload_n 0, 1) := by decide +kernel
theorem dX2_add_10 : decode cX2_add 10 = .ok (.getfield 15, 3) := by decide +kernel
theorem dX2_add_13 : decode cX2_add 13 = .ok (.aload_n 0, 1) := by decide +kernel
theorem dX2_add_14 : decode cX2_add 14 = .ok (.getfield 9, 3) := by decide +kernel
theorem dX2_add_17 : decode cX2_add 17 = .ok (.iload_n 1, 1) := by decide +kernel
theorem dX2_add_18 : decode cX2_add 18 = .ok (.iastore, 1) := by decide +kernel
theorem dX2_add_19 : decode cX2_add 19 = .ok (.aload_n 0, 1) := by decide +kernel
theorem dX2_add_20 : decode cX2_add 20 = .ok (.getfield 19, 3) := by decide +kernel
theorem dX2_add_23 : decode cX2_add 23 = .ok (.aload_n 0, 1) := by decide +kernel
theorem dX2_add_24 : decode cX2_add 24 = .ok (.getfield 9, 3) := by decide +kernel
theorem dX2_add_27 : decode cX2_add 27 = .ok (.iload_n 2, 1) := by decide +kernel
theorem dX2_add_28 : decode cX2_add 28 = .ok (.iastore, 1) := by decide +kernel
theorem dX2_add_29 : decode cX2_add 29 = .ok (.aload_n 0, 1) := by decide +kernel
theorem dX2_add_30 : decode cX2_add 30 = .ok (.getfield 22, 3) := by decide +kernel
theorem dX2_add_33 : decode cX2_add 33 = .ok (.aload_n 0, 1) := by decide +kernel
theorem dX2_add_34 : decode cX2_add 34 = .ok (.getfield 9, 3) := by decide +kernel
theorem dX2_add_37 : decode cX2_add 37 = .ok (.iload_n 3, 1) := by decide +kernel
theorem dX2_add_38 : decode cX2_add 38 = .ok (.iastore, 1) := by decide +kernel
theorem dX2_add_39 : decode cX2_add 39 = .ok (.aload_n 0, 1) := by decide +kernel
theorem dX2_add_40 : decode cX2_add 40 = .ok (.dup, 1) := by decide +kernel
theorem dX2_add_41 : decode cX2_add 41 = .ok (.getfield 9, 3) := by decide +kernel
theorem dX2_add_44 : decode cX2_add 44 = .ok (.iconst 1, 1) := by decide +kernel
theorem dX2_add_45 : decode cX2_add 45 = .ok (.iadd, 1) := by decide +kernel
theorem dX2_add_46 : decode cX2_add 46 = .ok (.putfield 9, 3) := by decide +kernel
theorem dX2_add_49 : decode cX2_add 49 = .ok (.return_, 1) := by decide +kernel
theorem dX2_becomeLike_0 : decode cX2_becomeLike 0 = .ok (.aload_n 0, 1) := by decide +kernel
theorem dX2_becomeLike_1 : decode cX2_becomeLike 1 = .ok (.aload_n 1, 1) := by decide +kernel
theorem dX2_becomeLike_2 : decode cX2_becomeLike 2 = .ok (.getfield 9, 3) := by decide +kernel
theorem dX2_becomeLike_5 : decode cX2_becomeLike 5 = .ok (.putfield 9, 3) := by decide +kernel
theorem dX2_becomeLike_8 : decode cX2_becomeLike 8 = .ok (.aload_n 1, 1) := by decide +kernel
theorem dX2_becomeLike_9 : decode cX2_becomeLike 9 = .ok (.getfield 15, 3) := by decide +kernel
theorem dX2_becomeLike_12 : decode cX2_becomeLike 12 = .ok (.iconst 0, 1) := by decide +kernel
theorem dX2_becomeLike_13 : decode cX2_becomeLike 13 = .ok (.aload_n 0, 1) := by decide +kernel
theorem dX2_becomeLike_14 : decode cX2_becomeLike 14 = .ok (.getfield 15, 3) := by decide +kernel
theorem dX2_becomeLike_17 : decode cX2_becomeLike 17 = .ok (.iconst 0, 1) := by decide +kernel
theorem dX2_becomeLike_18 : decode cX2_becomeLike 18 = .ok (.bipush 30, 2) := by decide +kernel
theorem dX2_becomeLike_20 : decode cX2_becomeLike 20 = .ok (.invokestatic 25, 3) := by decide +kernel
theorem dX2_becomeLike_23 : decode cX2_becomeLike 23 = .ok (.aload_n 1, 1) := by decide +kernel
theorem dX2_becomeLike_24 : decode cX2_becomeLike 24 = .ok (.getfield 19, 3) := by decide +kernel
theorem dX2_becomeLike_27 : decode cX2_becomeLike 27 = .ok (.iconst 0, 1) := by decide +kernel
theorem dX2_becomeLike_28 : decode cX2_becomeLike 28 = .ok (.aload_n 0, 1) := by decide +kernel
theorem dX2_becomeLike_29 : decode cX2_becomeLike 29 = .ok (.getfield 19, 3) := by decide +kernel
theorem dX2_becomeLike_32 : decode cX2_becomeLike 32 = .ok (.iconst 0, 1) := by decide +kernel
theorem dX2_becomeLike_33 : decode cX2_becomeLike 33 = .ok (.bipush 30, 2) := by decide +kernel
theorem dX2_becomeLike_35 : decode cX2_becomeLike 35 = .ok (.invokestatic 25, 3) := by decide +kernel
theorem dX2_becomeLike_38 : decode cX2_becomeLike 38 = .ok (.aload_n 1, 1) := by decide +kernel
theorem dX2_becomeLike_39 : decode cX2_becomeLike 39 = .ok (.getfield 22, 3) := by decide +kernel
theorem dX2_becomeLike_42 : decode cX2_becomeLike 42 = .ok (.iconst 0, 1) := by decide +kernel
theorem dX2_becomeLike_43 : decode cX2_becomeLike 43 = .ok (.aload_n 0, 1) := by decide +kernel
theorem dX2_becomeLike_44 : decode cX2_becomeLike 44 = .ok (.getfield 22, 3) := by decide +kernel
theorem dX2_becomeLike_47 : decode cX2_becomeLike 47 = .ok (.iconst 0, 1) := by decide +kernel
theorem dX2_becomeLike_48 : decode cX2_becomeLike 48 = .ok (.bipush 30, 2) := by decide +kernel
theorem dX2_becomeLike_50 : decode cX2_becomeLike 50 = .ok (.invokestatic 25, 3) := by decide +kernel
theorem dX2_becomeLike_53 : decode cX2_becomeLike 53 = .ok (.return_, 1) := by decide +kernel
theorem dX3_init_0 : decode cX3_init 0 = .ok (.aload_n 0, 1) := by decide +kernel
theorem dX3_init_1 : decode cX3_init 1 = .ok (.invokespecial 1, 3) := by decide +kernel
theorem dX3_init_4 : decode cX3_init 4 = .ok (.return_, 1) := by decide +kernel
theorem dX3_begin_0 : decode cX3_begin 0 = .ok (.aload_n 0, 1) := by decide +kernel
theorem dX3_begin_1 : decode cX3_begin 1 = .ok (.iload_n 1, 1) := by decide +kernel
theorem dX3_begin_2 : decode cX3_begin 2 = .ok (.putfield 7, 3) := by decide +kernel
theorem dX3_begin_5 : decode cX3_begin 5 = .ok (.aload_n 0, 1) := by decide +kernel
theorem dX3_begin_6 : decode cX3_begin 6 = .ok (.iload_n 2, 1) := by decide +kernel
theorem dX3_begin_7 : decode cX3_begin 7 = .ok (.putfield 13, 3) := by decide +kernel
theorem dX3_begin_10 : decode cX3_begin 10 = .ok (.aload_n 0, 1) := by decide +kernel
theorem dX3_begin_11 : decode cX3_begin 11 = .ok (.iload_n 3, 1) := by decide +kernel
theorem dX3_begin_12 : decode cX3_begin 12 = .ok (.putfield 16, 3) := by decide +kernel
theorem dX3_begin_15 : decode cX3_begin 15 = .ok (.aload_n 0, 1) := by decide +kernel
theorem dX3_begin_16 : decode cX3_begin 16 = .ok (.iload 4, 2) := by decide +kernel
theorem dX3_begin_18 : decode cX3_begin 18 = .ok (.putfield 19, 3) := by decide +kernel
theorem dX3_begin_21 : decode cX3_begin 21 = .ok (.aload_n 0, 1) := by decide +kernel
theorem dX3_begin_22 : decode cX3_begin 22 = .ok (.iload 5, 2) := by decide +kernel
theorem dX3_begin_24 : decode cX3_begin 24 = .ok (.putfield 22, 3) := by decide +kernel
theorem dX3_begin_27 : decode cX3_begin 27 = .ok (.return_, 1) := by decide +kernel
theorem dX3_becomeLike_0 : decode cX3_becomeLike 0 = .ok (.aload_n 0, 1) := by decide +kernel
theorem dX3_becomeLike_1 : decode cX3_becomeLike 1 = .ok (.aload_n 1, 1) := by decide +kernel
theorem dX3_becomeLike_2 : decode cX3_becomeLike 2 = .ok (.getfield 7, 3) := by decide +kernel
theorem dX3_becomeLike_5 : decode cX3_becomeLike 5 = .ok (.aload_n 1, 1) := by decide +kernel
theorem dX3_becomeLike_6 : decode cX3_becomeLike 6 = .ok (.getfield 13, 3) := by decide +kernel
theorem dX3_becomeLike_9 : decode cX3_becomeLike 9 = .ok (.aload_n 1, 1) := by decide +kernel
theorem dX3_becomeLike_10 : decode cX3_becomeLike 10 = .ok (.getfield 16, 3) := by decide +kernel
theorem dX3_becomeLike_13 : decode cX3_becomeLike 13 = .ok (.aload_n 1, 1) := by decide +kernel
theorem dX3_becomeLike_14 : decode cX3_becomeLike 14 = .ok (.getfield 19, 3) := by decide +kernel
theorem dX3_becomeLike_17 : decode cX3_becomeLike 17 = .ok (.aload_n 1, 1) := by decide +kernel
theorem dX3_becomeLike_18 : decode cX3_becomeLike 18 = .ok (.getfield 22, 3) := by decide +kernel
theorem dX3_becomeLike_21 : decode cX3_becomeLike 21 = .ok (.invokevirtual 26, 3) := by decide +kernel
theorem dX3_becomeLike_24 : decode cX3_becomeLike 24 = .ok (.return_, 1) := by decide +kernel
theorem dX3_needFor_0 : decode cX3_needFor 0 = .ok (.aload_n 0, 1) := by decide +kernel
theorem dX3_needFor_1 : decode cX3_needFor 1 = .ok (.getfield 16, 3) := by decide +kernel
theorem dX3_needFor_4 : decode cX3_needFor 4 = .ok (.aload_n 0, 1) := by decide +kernel
theorem dX3_needFor_5 : decode cX3_needFor 5 = .ok (.getfield 19, 3) := by decide +kernel
theorem dX3_needFor_8 : decode cX3_needFor 8 = .ok (.iload_n 1, 1) := by decide +kernel
theorem dX3_needFor_9 : decode cX3_needFor 9 = .ok (.aload_n 0, 1) := by decide +kernel
theorem dX3_needFor_10 : decode cX3_needFor 10 = .ok (.getfield 13, 3) := by decide +kernel
theorem dX3_needFor_13 : decode cX3_needFor 13 = .ok (.isub, 1) := by decide +kernel
theorem dX3_needFor_14 : decode cX3_needFor 14 = .ok (.invokestatic 30, 3) := by decide +kernel
theorem dX3_needFor_17 : decode cX3_needFor 17 = .ok (.imul, 1) := by decide +kernel
theorem dX3_needFor_18 : decode cX3_needFor 18 = .ok (.iadd, 1) := by decide +kernel
theorem dX3_needFor_19 : decode cX3_needFor 19 = .ok (.ireturn, 1) := by decide +kernel
theorem dX4_init_0 : decode cX4_init 0 = .ok (.aload_n 0, 1) := by decide +kernel
theorem dX4_init_1 : decode cX4_init 1 = .ok (.invokespecial 3, 3) := by decide +kernel
theorem dX4_init_4 : decode cX4_init 4 = .ok (.aload_n 0, 1) := by decide +kernel
theorem dX4_init_5 : decode cX4_init 5 = .ok (.iconst 0, 1) := by decide +kernel
theorem dX4_init_6 : decode cX4_init 6 = .ok (.putfield 9, 3) := by decide +kernel
theorem dX4_init_9 : decode cX4_init 9 = .ok (.aload_n 0, 1) := by decide +kernel
theorem dX4_init_10 : decode cX4_init 10 = .ok (.bipush 8, 2) := by decide +kernel
theorem dX4_init_12 : decode cX4_init 12 = .ok (.newarray .int, 2) := by decide +kernel
theorem dX4_init_14 : decode cX4_init 14 = .ok (.putfield 15, 3) := by decide +kernel
theorem dX4_init_17 : decode cX4_init 17 = .ok (.aload_n 0, 1) := by decide +kernel
theorem dX4_init_18 : decode cX4_init 18 = .ok (.bipush 8, 2) := by decide +kernel
theorem dX4_init_20 : decode cX4_init 20 = .ok (.newarray .int, 2) := by decide +kernel
theorem dX4_init_22 : decode cX4_init 22 = .ok (.putfield 19, 3) := by decide +kernel
theorem dX4_init_25 : decode cX4_init 25 = .ok (.aload_n 0, 1) := by decide +kernel
theorem dX4_init_26 : decode cX4_init 26 = .ok (.bipush 8, 2) := by decide +kernel
theorem dX4_init_28 : decode cX4_init 28 = .ok (.newarray .int, 2) := by decide +kernel
theorem dX4_init_30 : decode cX4_init 30 = .ok (.putfield 22, 3) := by decide +kernel
theorem dX4_init_33 : decode cX4_init 33 = .ok (.aload_n 0, 1) := by decide +kernel
theorem dX4_init_34 : decode cX4_init 34 = .ok (.bipush 8, 2) := by decide +kernel
theorem dX4_init_36 : decode cX4_init 36 = .ok (.newarray .int, 2) := by decide +kernel
theorem dX4_init_38 : decode cX4_init 38 = .ok (.putfield 25, 3) := by decide +kernel
theorem dX4_init_41 : decode cX4_init 41 = .ok (.aload_n 0, 1) := by decide +kernel
theorem dX4_init_42 : decode cX4_init 42 = .ok (.bipush 8, 2) := by decide +kernel
theorem dX4_init_44 : decode cX4_init 44 = .ok (.newarray .int, 2) := by decide +kernel
theorem dX4_init_46 : decode cX4_init 46 = .ok (.putfield 28, 3) := by decide +kernel
theorem dX4_init_49 : decode cX4_init 49 = .ok (.return_, 1) := by decide +kernel
theorem dX4_add_0 : decode cX4_add 0 = .ok (.aload_n 0, 1) := by decide +kernel
theorem dX4_add_1 : decode cX4_add 1 = .ok (.getfield 9, 3) := by decide +kernel
theorem dX4_add_4 : decode cX4_add 4 = .ok (.bipush 8, 2) := by decide +kernel
theorem dX4_add_6 : decode cX4_add 6 = .ok (.if_icmp .ge 73, 3) := by decide +kernel
theorem dX4_add_9 : decode cX4_add 9 = .ok (.aload_n 0, 1) := by decide +kernel
theorem dX4_add_10 : decode cX4_add 10 = .ok (.getfield 15, 3) := by decide +kernel
theorem dX4_add_13 : decode cX4_add 13 = .ok (.aload_n 0, 1) := by decide +kernel
theorem dX4_add_14 : decode cX4_add 14 = .ok (.getfield 9, 3) := by decide +kernel
theorem dX4_add_17 : decode cX4_add 17 = .ok (.iload_n 2, 1) := by decide +kernel
theorem dX4_add_18 : decode cX4_add 18 = .ok (.iastore, 1) := by decide +kernel
theorem dX4_add_19 : decode cX4_add 19 = .ok (.aload_n 0, 1) := by decide +kernel
theorem dX4_add_20 : decode cX4_add 20 = .ok (.getfield 19, 3) := by decide +kernel
theorem dX4_add_23 : decode cX4_add 23 = .ok (.aload_n 0, 1) := by decide +kernel
theorem dX4_add_24 : decode cX4_add 24 = .ok (.getfield 9, 3) := by decide +kernel
theorem dX4_add_27 : decode cX4_add 27 = .ok (.iload_n 3, 1) := by decide +kernel
theorem dX4_add_28 : decode cX4_add 28 = .ok (.iastore, 1) := by decide +kernel
theorem dX4_add_29 : decode cX4_add 29 = .ok (.aload_n 0, 1) := by decide +kernel
theorem dX4_add_30 : decode cX4_add 30 = .ok (.getfield 22, 3) := by decide +kernel
theorem dX4_add_33 : decode cX4_add 33 = .ok (.aload_n 0, 1) := by decide +kernel
theorem dX4_add_34 : decode cX4_add 34 = .ok (.getfield 9, 3) := by decide +kernel
theorem dX4_add_37 : decode cX4_add 37 = .ok (.iload 4, 2) := by decide +kernel
theorem dX4_add_39 : decode cX4_add 39 = .ok (.iastore, 1) := by decide +kernel
theorem dX4_add_40 : decode cX4_add 40 = .ok (.aload_n 0, 1) := by decide +kernel
theorem dX4_add_41 : decode cX4_add 41 = .ok (.getfield 25, 3) := by decide +kernel
theorem dX4_add_44 : decode cX4_add 44 = .ok (.aload_n 0, 1) := by decide +kernel
theorem dX4_add_45 : decode cX4_add 45 = .ok (.getfield 9, 3) := by decide +kernel
theorem dX4_add_48 : decode cX4_add 48 = .ok (.iload 5, 2) := by decide +kernel
theorem dX4_add_50 : decode cX4_add 50 = .ok (.iastore, 1) := by decide +kernel
theorem dX4_add_51 : decode cX4_add 51 = .ok (.aload_n 0, 1) := by decide +kernel
theorem dX4_add_52 : decode cX4_add 52 = .ok (.getfield 28, 3) := by decide +kernel
theorem dX4_add_55 : decode cX4_add 55 = .ok (.aload_n 0, 1) := by decide +kernel
theorem dX4_add_56 : decode cX4_add 56 = .ok (.getfield 9, 3) := by decide +kernel
theorem dX4_add_59 : decode cX4_add 59 = .ok (.iload_n 1, 1) := by decide +kernel
theorem dX4_add_60 : decode cX4_add 60 = .ok (.ifCond .eq 7, 3) := by decide +kernel
theorem dX4_add_63 : decode cX4_add 63 = .ok (.iconst 1, 1) := by decide +kernel
theorem dX4_add_64 : decode cX4_add 64 = .ok (.goto 4, 3) := by decide +kernel
theorem dX4_add_67 : decode cX4_add 67 = .ok (.iconst 0, 1) := by decide +kernel
theorem dX4_add_68 : decode cX4_add 68 = .ok (.iastore, 1) := by decide +kernel
theorem dX4_add_69 : decode cX4_add 69 = .ok (.aload_n 0, 1) := by decide +kernel
theorem dX4_add_70 : decode cX4_add 70 = .ok (.dup, 1) := by decide +kernel
theorem dX4_add_71 : decode cX4_add 71 = .ok (.getfield 9, 3) := by decide +kernel
theorem dX4_add_74 : decode cX4_add 74 = .ok (.iconst 1, 1) := by decide +kernel
theorem dX4_add_75 : decode cX4_add 75 = .ok (.iadd, 1) := by decide +kernel
theorem dX4_add_76 : decode cX4_add 76 = .ok (.putfield 9, 3) := by decide +kernel
theorem dX4_add_79 : decode cX4_add 79 = .ok (.return_, 1) := by decide +kernel
theorem dX4_becomeLike_0 : decode cX4_becomeLike 0 = .ok (.aload_n 0, 1) := by decide +kernel
theorem dX4_becomeLike_1 : decode cX4_becomeLike 1 = .ok (.aload_n 1, 1) := by decide +kernel
theorem dX4_becomeLike_2 : decode cX4_becomeLike 2 = .ok (.getfield 9, 3) := by decide +kernel
theorem dX4_becomeLike_5 : decode cX4_becomeLike 5 = .ok (.putfield 9, 3) := by decide +kernel
theorem dX4_becomeLike_8 : decode cX4_becomeLike 8 = .ok (.aload_n 1, 1) := by decide +kernel
theorem dX4_becomeLike_9 : decode cX4_becomeLike 9 = .ok (.getfield 15, 3) := by decide +kernel
theorem dX4_becomeLike_12 : decode cX4_becomeLike 12 = .ok (.iconst 0, 1) := by decide +kernel
theorem dX4_becomeLike_13 : decode cX4_becomeLike 13 = .ok (.aload_n 0, 1) := by decide +kernel
theorem dX4_becomeLike_14 : decode cX4_becomeLike 14 = .ok (.getfield 15, 3) := by decide +kernel
theorem dX4_becomeLike_17 : decode cX4_becomeLike 17 = .ok (.iconst 0, 1) := by decide +kernel
theorem dX4_becomeLike_18 : decode cX4_becomeLike 18 = .ok (.bipush 8, 2) := by decide +kernel
theorem dX4_becomeLike_20 : decode cX4_becomeLike 20 = .ok (.invokestatic 31, 3) := by decide +kernel
theorem dX4_becomeLike_23 : decode cX4_becomeLike 23 = .ok (.aload_n 1, 1) := by decide +kernel
theorem dX4_becomeLike_24 : decode cX4_becomeLike 24 = .ok (.getfield 19, 3) := by decide +kernel
theorem dX4_becomeLike_27 : decode cX4_becomeLike 27 = .ok (.iconst 0, 1) := by decide +kernel
theorem dX4_becomeLike_28 : decode cX4_becomeLike 28 = .ok (.aload_n 0, 1) := by decide +kernel
theorem dX4_becomeLike_29 : decode cX4_becomeLike 29 = .ok (.getfield 19, 3) := by decide +kernel
theorem dX4_becomeLike_32 : decode cX4_becomeLike 32 = .ok (.iconst 0, 1) := by decide +kernel
theorem dX4_becomeLike_33 : decode cX4_becomeLike 33 = .ok (.bipush 8, 2) := by decide +kernel
theorem dX4_becomeLike_35 : decode cX4_becomeLike 35 = .ok (.invokestatic 31, 3) := by decide +kernel
theorem dX4_becomeLike_38 : decode cX4_becomeLike 38 = .ok (.aload_n 1, 1) := by decide +kernel
theorem dX4_becomeLike_39 : decode cX4_becomeLike 39 = .ok (.getfield 22, 3) := by decide +kernel
theorem dX4_becomeLike_42 : decode cX4_becomeLike 42 = .ok (.iconst 0, 1) := by decide +kernel
theorem dX4_becomeLike_43 : decode cX4_becomeLike 43 = .ok (.aload_n 0, 1) := by decide +kernel
theorem dX4_becomeLike_44 : decode cX4_becomeLike 44 = .ok (.getfield 22, 3) := by decide +kernel
theorem dX4_becomeLike_47 : decode cX4_becomeLike 47 = .ok (.iconst 0, 1) := by decide +kernel
theorem dX4_becomeLike_48 : decode cX4_becomeLike 48 = .ok (.bipush 8, 2) := by decide +kernel
theorem dX4_becomeLike_50 : decode cX4_becomeLike 50 = .ok (.invokestatic 31, 3) := by decide +kernel
theorem dX4_becomeLike_53 : decode cX4_becomeLike 53 = .ok (.aload_n 1, 1) := by decide +kernel
theorem dX4_becomeLike_54 : decode cX4_becomeLike 54 = .ok (.getfield 25, 3) := by decide +kernel
theorem dX4_becomeLike_57 : decode cX4_becomeLike 57 = .ok (.iconst 0, 1) := by decide +kernel
theorem dX4_becomeLike_58 : decode cX4_becomeLike 58 = .ok (.aload_n 0, 1) := by decide +kernel
theorem dX4_becomeLike_59 : decode cX4_becomeLike 59 = .ok (.getfield 25, 3) := by decide +kernel
theorem dX4_becomeLike_62 : decode cX4_becomeLike 62 = .ok (.iconst 0, 1) := by decide +kernel
theorem dX4_becomeLike_63 : decode cX4_becomeLike 63 = .ok (.bipush 8, 2) := by decide +kernel
theorem dX4_becomeLike_65 : decode cX4_becomeLike 65 = .ok (.invokestatic 31, 3) := by decide +kernel
theorem dX4_becomeLike_68 : decode cX4_becomeLike 68 = .ok (.aload_n 1, 1) := by decide +kernel
theorem dX4_becomeLike_69 : decode cX4_becomeLike 69 = .ok (.getfield 28, 3) := by decide +kernel
theorem dX4_becomeLike_72 : decode cX4_becomeLike 72 = .ok (.iconst 0, 1) := by decide +kernel
theorem dX4_becomeLike_73 : decode cX4_becomeLike 73 = .ok (.aload_n 0, 1) := by decide +kernel
theorem dX4_becomeLike_74 : decode cX4_becomeLike 74 = .ok (.getfield 28, 3) := by decide +kernel
theorem dX4_becomeLike_77 : decode cX4_becomeLike 77 = .ok (.iconst 0, 1) := by decide +kernel
theorem dX4_becomeLike_78 : decode cX4_becomeLike 78 = .ok (.bipush 8, 2) := by decide +kernel
theorem dX4_becomeLike_80 : decode cX4_becomeLike 80 = .ok (.invokestatic 31, 3) := by decide +kernel
theorem dX4_becomeLike_83 : decode cX4_becomeLike 83 = .ok (.return_, 1) := by decide +kernel
theorem dX4_isOfHour_0 : decode cX4_isOfHour 0 = .ok (.iload_n 2, 1) := by decide +kernel
theorem dX4_isOfHour_1 : decode cX4_isOfHour 1 = .ok (.aload_n 0, 1) := by decide +kernel
theorem dX4_isOfHour_2 : decode cX4_isOfHour 2 = .ok (.getfield 19, 3) := by decide +kernel
theorem dX4_isOfHour_5 : decode cX4_isOfHour 5 = .ok (.iload_n 1, 1) := by decide +kernel
theorem dX4_isOfHour_6 : decode cX4_isOfHour 6 = .ok (.iaload, 1) := by decide +kernel
theorem dX4_isOfHour_7 : decode cX4_isOfHour 7 = .ok (.isub, 1) := by decide +kernel
theorem dX4_isOfHour_8 : decode cX4_isOfHour 8 = .ok (.istore_n 3, 1) := by decide +kernel
theorem dX4_isOfHour_9 : decode cX4_isOfHour 9 = .ok (.iload_n 3, 1) := by decide +kernel
theorem dX4_isOfHour_10 : decode cX4_isOfHour 10 = .ok (.ifCond .ge 5, 3) := by decide +kernel
theorem dX4_isOfHour_13 : decode cX4_isOfHour 13 = .ok (.iconst 0, 1) := by decide +kernel
theorem dX4_isOfHour_14 : decode cX4_isOfHour 14 = .ok (.ireturn, 1) := by decide +kernel
theorem dX4_isOfHour_15 : decode cX4_isOfHour 15 = .ok (.aload_n 0, 1) := by decide +kernel
theorem dX4_isOfHour_16 : decode cX4_isOfHour 16 = .ok (.getfield 25, 3) := by decide +kernel
theorem dX4_isOfHour_19 : decode cX4_isOfHour 19 = .ok (.iload_n 1, 1) := by decide +kernel
theorem dX4_isOfHour_20 : decode cX4_isOfHour 20 = .ok (.iaload, 1) := by decide +kernel
theorem dX4_isOfHour_21 : decode cX4_isOfHour 21 = .ok (.ifCond .le 12, 3) := by decide +kernel
theorem dX4_isOfHour_24 : decode cX4_isOfHour 24 = .ok (.iload_n 3, 1) := by decide +kernel
theorem dX4_isOfHour_25 : decode cX4_isOfHour 25 = .ok (.aload_n 0, 1) := by decide +kernel
theorem dX4_isOfHour_26 : decode cX4_isOfHour 26 = .ok (.getfield 25, 3) := by decide +kernel
theorem dX4_isOfHour_29 : decode cX4_isOfHour 29 = .ok (.iload_n 1, 1) := by decide +kernel
theorem dX4_isOfHour_30 : decode cX4_isOfHour 30 = .ok (.iaload, 1) := by decide +kernel
theorem dX4_isOfHour_31 : decode cX4_isOfHour 31 = .ok (.irem, 1) := by decide +kernel
theorem dX4_isOfHour_32 : decode cX4_isOfHour 32 = .ok (.istore_n 3, 1) := by decide +kernel
theorem dX4_isOfHour_33 : decode cX4_isOfHour 33 = .ok (.iload_n 3, 1) := by decide +kernel
theorem dX4_isOfHour_34 : decode cX4_isOfHour 34 = .ok (.aload_n 0, 1) := by decide +kernel
theorem dX4_isOfHour_35 : decode cX4_isOfHour 35 = .ok (.getfield 22, 3) := by decide +kernel
theorem dX4_isOfHour_38 : decode cX4_isOfHour 38 = .ok (.iload_n 1, 1) := by decide +kernel
theorem dX4_isOfHour_39 : decode cX4_isOfHour 39 = .ok (.iaload, 1) := by decide +kernel
theorem dX4_isOfHour_40 : decode cX4_isOfHour 40 = .ok (.aload_n 0, 1) := by decide +kernel
theorem dX4_isOfHour_41 : decode cX4_isOfHour 41 = .ok (.getfield 19, 3) := by decide +kernel
theorem dX4_isOfHour_44 : decode cX4_isOfHour 44 = .ok (.iload_n 1, 1) := by decide +kernel
theorem dX4_isOfHour_45 : decode cX4_isOfHour 45 = .ok (.iaload, 1) := by decide +kernel
theorem dX4_isOfHour_46 : decode cX4_isOfHour 46 = .ok (.isub, 1) := by decide +kernel
theorem dX4_isOfHour_47 : decode cX4_isOfHour 47 = .ok (.if_icmp .gt 7, 3) := by decide +kernel
theorem dX4_isOfHour_50 : decode cX4_isOfHour 50 = .ok (.iconst 1, 1) := by decide +kernel
theorem dX4_isOfHour_51 : decode cX4_isOfHour 51 = .ok (.goto 4, 3) := by decide +kernel
theorem dX4_isOfHour_54 : decode cX4_isOfHour 54 = .ok (.iconst 0, 1) := by decide +kernel
theorem dX4_isOfHour_55 : decode cX4_isOfHour 55 = .ok (.ireturn, 1) := by decide +kernel
theorem dX4_change_0 : decode cX4_change 0 = .ok (.iload_n 1, 1) := by decide +kernel
theorem dX4_change_1 : decode cX4_change 1 = .ok (.istore_n 3, 1) := by decide +kernel
theorem dX4_change_2 : decode cX4_change 2 = .ok (.iconst 0, 1) := by decide +kernel
theorem dX4_change_3 : decode cX4_change 3 = .ok (.istore 4, 2) := by decide +kernel
theorem dX4_change_5 : decode cX4_change 5 = .ok (.iload 4, 2) := by decide +kernel
theorem dX4_change_7 : decode cX4_change 7 = .ok (.aload_n 0, 1) := by decide +kernel
theorem dX4_change_8 : decode cX4_change 8 = .ok (.getfield 9, 3) := by decide +kernel
theorem dX4_change_11 : decode cX4_change 11 = .ok (.if_icmp .ge 63, 3) := by decide +kernel
theorem dX4_change_14 : decode cX4_change 14 = .ok (.iload 4, 2) := by decide +kernel
theorem dX4_change_16 : decode cX4_change 16 = .ok (.bipush 8, 2) := by decide +kernel
theorem dX4_change_18 : decode cX4_change 18 = .ok (.if_icmp .ge 56, 3) := by decide +kernel
theorem dX4_change_21 : decode cX4_change 21 = .ok (.aload_n 0, 1) := by decide +kernel
theorem dX4_change_22 : decode cX4_change 22 = .ok (.iload 4, 2) := by decide +kernel
theorem dX4_change_24 : decode cX4_change 24 = .ok (.iload_n 2, 1) := by decide +kernel
theorem dX4_change_25 : decode cX4_change 25 = .ok (.invokevirtual 37, 3) := by decide +kernel
theorem dX4_change_28 : decode cX4_change 28 = .ok (.ifCond .eq 40, 3) := by decide +kernel
theorem dX4_change_31 : decode cX4_change 31 = .ok (.aload_n 0, 1) := by decide +kernel
theorem dX4_change_32 : decode cX4_change 32 = .ok (.getfield 15, 3) := by decide +kernel
theorem dX4_change_35 : decode cX4_change 35 = .ok (.iload 4, 2) := by decide +kernel
theorem dX4_change_37 : decode cX4_change 37 = .ok (.iaload, 1) := by decide +kernel
theorem dX4_change_38 : decode cX4_change 38 = .ok (.invokestatic 41, 3) := by decide +kernel
theorem dX4_change_41 : decode cX4_change 41 = .ok (.istore 5, 2) := by decide +kernel
theorem dX4_change_43 : decode cX4_change 43 = .ok (.aload_n 0, 1) := by decide +kernel
theorem dX4_change_44 : decode cX4_change 44 = .ok (.getfield 28, 3) := by decide +kernel
theorem dX4_change_47 : decode cX4_change 47 = .ok (.iload 4, 2) := by decide +kernel
theorem dX4_change_49 : decode cX4_change 49 = .ok (.iaload, 1) := by decide +kernel
theorem dX4_change_50 : decode cX4_change 50 = .ok (.iconst 1, 1) := by decide +kernel
theorem dX4_change_51 : decode cX4_change 51 = .ok (.if_icmp .ne 10, 3) := by decide +kernel
theorem dX4_change_54 : decode cX4_change 54 = .ok (.iload_n 3, 1) := by decide +kernel
theorem dX4_change_55 : decode cX4_change 55 = .ok (.iload 5, 2) := by decide +kernel
theorem dX4_change_57 : decode cX4_change 57 = .ok (.ior, 1) := by decide +kernel
theorem dX4_change_58 : decode cX4_change 58 = .ok (.goto 9, 3) := by decide +kernel
theorem dX4_change_61 : decode cX4_change 61 = .ok (.iload_n 3, 1) := by decide +kernel
theorem dX4_change_62 : decode cX4_change 62 = .ok (.iload 5, 2) := by decide +kernel
theorem dX4_change_64 : decode cX4_change 64 = .ok (.iconst (-1), 1) := by decide +kernel
theorem dX4_change_65 : decode cX4_change 65 = .ok (.ixor, 1) := by decide +kernel
theorem dX4_change_66 : decode cX4_change 66 = .ok (.iand, 1) := by decide +kernel
theorem dX4_change_67 : decode cX4_change 67 = .ok (.istore_n 3, 1) := by decide +kernel
theorem dX4_change_68 : decode cX4_change 68 = .ok (.iinc 4 1, 3) := by decide +kernel
theorem dX4_change_71 : decode cX4_change 71 = .ok (.goto (-66), 3) := by decide +kernel
theorem dX4_change_74 : decode cX4_change 74 = .ok (.iload_n 3, 1) := by decide +kernel
theorem dX4_change_75 : decode cX4_change 75 = .ok (.ireturn, 1) := by decide +kernel
theorem dX5_init_0 : decode cX5_init 0 = .ok (.aload_n 0, 1) := by decide +kernel
theorem dX5_init_1 : decode cX5_init 1 = .ok (.invokespecial 3, 3) := by decide +kernel
theorem dX5_init_4 : decode cX5_init 4 = .ok (.aload_n 0, 1) := by decide +kernel
theorem dX5_init_5 : decode cX5_init 5 = .ok (.bipush 60, 2) := by decide +kernel
theorem dX5_init_7 : decode cX5_init 7 = .ok (.newarray .int, 2) := by decide +kernel
theorem dX5_init_9 : decode cX5_init 9 = .ok (.putfield 9, 3) := by decide +kernel
theorem dX5_init_12 : decode cX5_init 12 = .ok (.aload_n 0, 1) := by decide +kernel
theorem dX5_init_13 : decode cX5_init 13 = .ok (.iconst 0, 1) := by decide +kernel
theorem dX5_init_14 : decode cX5_init 14 = .ok (.putfield 15, 3) := by decide +kernel
theorem dX5_init_17 : decode cX5_init 17 = .ok (.aload_n 0, 1) := by decide +kernel
theorem dX5_init_18 : decode cX5_init 18 = .ok (.iconst 0, 1) := by decide +kernel
theorem dX5_init_19 : decode cX5_init 19 = .ok (.putfield 19, 3) := by decide +kernel
theorem dX5_init_22 : decode cX5_init 22 = .ok (.aload_n 0, 1) := by decide +kernel
theorem dX5_init_23 : decode cX5_init 23 = .ok (.iconst 0, 1) := by decide +kernel
theorem dX5_init_24 : decode cX5_init 24 = .ok (.putfield 22, 3) := by decide +kernel
theorem dX5_init_27 : decode cX5_init 27 = .ok (.aload_n 0, 1) := by decide +kernel
theorem dX5_init_28 : decode cX5_init 28 = .ok (.iconst (-1), 1) := by decide +kernel
theorem dX5_init_29 : decode cX5_init 29 = .ok (.putfield 25, 3) := by decide +kernel
theorem dX5_init_32 : decode cX5_init 32 = .ok (.aload_n 0, 1) := by decide +kernel
theorem dX5_init_33 : decode cX5_init 33 = .ok (.iconst 0, 1) := by decide +kernel
theorem dX5_init_34 : decode cX5_init 34 = .ok (.putfield 28, 3) := by decide +kernel
theorem dX5_init_37 : decode cX5_init 37 = .ok (.aload_n 0, 1) := by decide +kernel
theorem dX5_init_38 : decode cX5_init 38 = .ok (.bipush 6, 2) := by decide +kernel
theorem dX5_init_40 : decode cX5_init 40 = .ok (.newarray .int, 2) := by decide +kernel
theorem dX5_init_42 : decode cX5_init 42 = .ok (.putfield 31, 3) := by decide +kernel
theorem dX5_init_45 : decode cX5_init 45 = .ok (.aload_n 0, 1) := by decide +kernel
theorem dX5_init_46 : decode cX5_init 46 = .ok (.new 34, 3) := by decide +kernel
theorem dX5_init_49 : decode cX5_init 49 = .ok (.dup, 1) := by decide +kernel
theorem dX5_init_50 : decode cX5_init 50 = .ok (.invokespecial 36, 3) := by decide +kernel
theorem dX5_init_53 : decode cX5_init 53 = .ok (.putfield 37, 3) := by decide +kernel
theorem dX5_init_56 : decode cX5_init 56 = .ok (.return_, 1) := by decide +kernel
theorem dX5_readLaws_0 : decode cX5_readLaws 0 = .ok (.aload_n 0, 1) := by decide +kernel
theorem dX5_readLaws_1 : decode cX5_readLaws 1 = .ok (.aload_n 1, 1) := by decide +kernel
theorem dX5_readLaws_2 : decode cX5_readLaws 2 = .ok (.invokevirtual 41, 3) := by decide +kernel
theorem dX5_readLaws_5 : decode cX5_readLaws 5 = .ok (.aload_n 2, 1) := by decide +kernel
theorem dX5_readLaws_6 : decode cX5_readLaws 6 = .ok (.iconst 0, 1) := by decide +kernel
theorem dX5_readLaws_7 : decode cX5_readLaws 7 = .ok (.aload_n 0, 1) := by decide +kernel
theorem dX5_readLaws_8 : decode cX5_readLaws 8 = .ok (.getfield 31, 3) := by decide +kernel
theorem dX5_readLaws_11 : decode cX5_readLaws 11 = .ok (.iconst 0, 1) := by decide +kernel
theorem dX5_readLaws_12 : decode cX5_readLaws 12 = .ok (.bipush 6, 2) := by decide +kernel
theorem dX5_readLaws_14 : decode cX5_readLaws 14 = .ok (.invokestatic 45, 3) := by decide +kernel
theorem dX5_readLaws_17 : decode cX5_readLaws 17 = .ok (.aload_n 0, 1) := by decide +kernel
theorem dX5_readLaws_18 : decode cX5_readLaws 18 = .ok (.iconst 0, 1) := by decide +kernel
theorem dX5_readLaws_19 : decode cX5_readLaws 19 = .ok (.putfield 28, 3) := by decide +kernel
theorem dX5_readLaws_22 : decode cX5_readLaws 22 = .ok (.iconst 1, 1) := by decide +kernel
theorem dX5_readLaws_23 : decode cX5_readLaws 23 = .ok (.istore_n 3, 1) := by decide +kernel
theorem dX5_readLaws_24 : decode cX5_readLaws 24 = .ok (.iconst 0, 1) := by decide +kernel
theorem dX5_readLaws_25 : decode cX5_readLaws 25 = .ok (.istore 4, 2) := by decide +kernel
theorem dX5_readLaws_27 : decode cX5_readLaws 27 = .ok (.iload 4, 2) := by decide +kernel
theorem dX5_readLaws_29 : decode cX5_readLaws 29 = .ok (.bipush 60, 2) := by decide +kernel
theorem dX5_readLaws_31 : decode cX5_readLaws 31 = .ok (.if_icmp .ge 33, 3) := by decide +kernel
theorem dX5_readLaws_34 : decode cX5_readLaws 34 = .ok (.iload_n 3, 1) := by decide +kernel
theorem dX5_readLaws_35 : decode cX5_readLaws 35 = .ok (.ifCond .eq 29, 3) := by decide +kernel
theorem dX5_readLaws_38 : decode cX5_readLaws 38 = .ok (.aload_n 0, 1) := by decide +kernel
theorem dX5_readLaws_39 : decode cX5_readLaws 39 = .ok (.invokevirtual 51, 3) := by decide +kernel
theorem dX5_readLaws_42 : decode cX5_readLaws 42 = .ok (.ifCond .eq 14, 3) := by decide +kernel
theorem dX5_readLaws_45 : decode cX5_readLaws 45 = .ok (.aload_n 0, 1) := by decide +kernel
theorem dX5_readLaws_46 : decode cX5_readLaws 46 = .ok (.invokevirtual 55, 3) := by decide +kernel
theorem dX5_readLaws_49 : decode cX5_readLaws 49 = .ok (.ifCond .eq 7, 3) := by decide +kernel
theorem dX5_readLaws_52 : decode cX5_readLaws 52 = .ok (.iconst 1, 1) := by decide +kernel
theorem dX5_readLaws_53 : decode cX5_readLaws 53 = .ok (.goto 4, 3) := by decide +kernel
theorem dX5_readLaws_56 : decode cX5_readLaws 56 = .ok (.iconst 0, 1) := by decide +kernel
theorem dX5_readLaws_57 : decode cX5_readLaws 57 = .ok (.istore_n 3, 1) := by decide +kernel
theorem dX5_readLaws_58 : decode cX5_readLaws 58 = .ok (.iinc 4 1, 3) := by decide +kernel
theorem dX5_readLaws_61 : decode cX5_readLaws 61 = .ok (.goto (-34), 3) := by decide +kernel
theorem dX5_readLaws_64 : decode cX5_readLaws 64 = .ok (.aload_n 0, 1) := by decide +kernel
theorem dX5_readLaws_65 : decode cX5_readLaws 65 = .ok (.getfield 25, 3) := by decide +kernel
theorem dX5_readLaws_68 : decode cX5_readLaws 68 = .ok (.iconst (-1), 1) := by decide +kernel
theorem dX5_readLaws_69 : decode cX5_readLaws 69 = .ok (.if_icmp .ne 7, 3) := by decide +kernel
theorem dX5_readLaws_72 : decode cX5_readLaws 72 = .ok (.iconst 1, 1) := by decide +kernel
theorem dX5_readLaws_73 : decode cX5_readLaws 73 = .ok (.goto 4, 3) := by decide +kernel
theorem dX5_readLaws_76 : decode cX5_readLaws 76 = .ok (.iconst 0, 1) := by decide +kernel
theorem dX5_readLaws_77 : decode cX5_readLaws 77 = .ok (.ireturn, 1) := by decide +kernel
theorem dX5_readPlan_0 : decode cX5_readPlan 0 = .ok (.aload_n 0, 1) := by decide +kernel
theorem dX5_readPlan_1 : decode cX5_readPlan 1 = .ok (.aload_n 1, 1) := by decide +kernel
theorem dX5_readPlan_2 : decode cX5_readPlan 2 = .ok (.invokevirtual 41, 3) := by decide +kernel
theorem dX5_readPlan_5 : decode cX5_readPlan 5 = .ok (.aload_n 0, 1) := by decide +kernel
theorem dX5_readPlan_6 : decode cX5_readPlan 6 = .ok (.getfield 37, 3) := by decide +kernel
theorem dX5_readPlan_9 : decode cX5_readPlan 9 = .ok (.iconst 0, 1) := by decide +kernel
theorem dX5_readPlan_10 : decode cX5_readPlan 10 = .ok (.putfield 58, 3) := by decide +kernel
theorem dX5_readPlan_13 : decode cX5_readPlan 13 = .ok (.iconst 1, 1) := by decide +kernel
theorem dX5_readPlan_14 : decode cX5_readPlan 14 = .ok (.istore_n 3, 1) := by decide +kernel
theorem dX5_readPlan_15 : decode cX5_readPlan 15 = .ok (.iconst 0, 1) := by decide +kernel
theorem dX5_readPlan_16 : decode cX5_readPlan 16 = .ok (.istore 4, 2) := by decide +kernel
theorem dX5_readPlan_18 : decode cX5_readPlan 18 = .ok (.iload 4, 2) := by decide +kernel
theorem dX5_readPlan_20 : decode cX5_readPlan 20 = .ok (.bipush 8, 2) := by decide +kernel
theorem dX5_readPlan_22 : decode cX5_readPlan 22 = .ok (.if_icmp .ge 34, 3) := by decide +kernel
theorem dX5_readPlan_25 : decode cX5_readPlan 25 = .ok (.iload_n 3, 1) := by decide +kernel
theorem dX5_readPlan_26 : decode cX5_readPlan 26 = .ok (.ifCond .eq 30, 3) := by decide +kernel
theorem dX5_readPlan_29 : decode cX5_readPlan 29 = .ok (.aload_n 0, 1) := by decide +kernel
theorem dX5_readPlan_30 : decode cX5_readPlan 30 = .ok (.iload_n 2, 1) := by decide +kernel
theorem dX5_readPlan_31 : decode cX5_readPlan 31 = .ok (.invokevirtual 59, 3) := by decide +kernel
theorem dX5_readPlan_34 : decode cX5_readPlan 34 = .ok (.ifCond .eq 14, 3) := by decide +kernel
theorem dX5_readPlan_37 : decode cX5_readPlan 37 = .ok (.aload_n 0, 1) := by decide +kernel
theorem dX5_readPlan_38 : decode cX5_readPlan 38 = .ok (.invokevirtual 55, 3) := by decide +kernel
theorem dX5_readPlan_41 : decode cX5_readPlan 41 = .ok (.ifCond .eq 7, 3) := by decide +kernel
theorem dX5_readPlan_44 : decode cX5_readPlan 44 = .ok (.iconst 1, 1) := by decide +kernel
theorem dX5_readPlan_45 : decode cX5_readPlan 45 = .ok (.goto 4, 3) := by decide +kernel
theorem dX5_readPlan_48 : decode cX5_readPlan 48 = .ok (.iconst 0, 1) := by decide +kernel
theorem dX5_readPlan_49 : decode cX5_readPlan 49 = .ok (.istore_n 3, 1) := by decide +kernel
theorem dX5_readPlan_50 : decode cX5_readPlan 50 = .ok (.iinc 4 1, 3) := by decide +kernel
theorem dX5_readPlan_53 : decode cX5_readPlan 53 = .ok (.goto (-35), 3) := by decide +kernel
theorem dX5_readPlan_56 : decode cX5_readPlan 56 = .ok (.iload_n 3, 1) := by decide +kernel
theorem dX5_readPlan_57 : decode cX5_readPlan 57 = .ok (.ifCond .eq 14, 3) := by decide +kernel
theorem dX5_readPlan_60 : decode cX5_readPlan 60 = .ok (.aload_n 0, 1) := by decide +kernel
theorem dX5_readPlan_61 : decode cX5_readPlan 61 = .ok (.aload_n 0, 1) := by decide +kernel
theorem dX5_readPlan_62 : decode cX5_readPlan 62 = .ok (.getfield 19, 3) := by decide +kernel
theorem dX5_readPlan_65 : decode cX5_readPlan 65 = .ok (.iconst 1, 1) := by decide +kernel
theorem dX5_readPlan_66 : decode cX5_readPlan 66 = .ok (.isub, 1) := by decide +kernel
theorem dX5_readPlan_67 : decode cX5_readPlan 67 = .ok (.invokevirtual 63, 3) := by decide +kernel
theorem dX5_readPlan_70 : decode cX5_readPlan 70 = .ok (.pop, 1) := by decide +kernel
theorem dX5_readPlan_71 : decode cX5_readPlan 71 = .ok (.aload_n 0, 1) := by decide +kernel
theorem dX5_readPlan_72 : decode cX5_readPlan 72 = .ok (.getfield 25, 3) := by decide +kernel
theorem dX5_readPlan_75 : decode cX5_readPlan 75 = .ok (.iconst (-1), 1) := by decide +kernel
theorem dX5_readPlan_76 : decode cX5_readPlan 76 = .ok (.if_icmp .ne 7, 3) := by decide +kernel
theorem dX5_readPlan_79 : decode cX5_readPlan 79 = .ok (.iconst 1, 1) := by decide +kernel
theorem dX5_readPlan_80 : decode cX5_readPlan 80 = .ok (.goto 4, 3) := by decide +kernel
theorem dX5_readPlan_83 : decode cX5_readPlan 83 = .ok (.iconst 0, 1) := by decide +kernel
theorem dX5_readPlan_84 : decode cX5_readPlan 84 = .ok (.ireturn, 1) := by decide +kernel
theorem dX5_begin_0 : decode cX5_begin 0 = .ok (.aload_n 0, 1) := by decide +kernel
theorem dX5_begin_1 : decode cX5_begin 1 = .ok (.aload_n 1, 1) := by decide +kernel
theorem dX5_begin_2 : decode cX5_begin 2 = .ok (.invokevirtual 66, 3) := by decide +kernel
theorem dX5_begin_5 : decode cX5_begin 5 = .ok (.putfield 15, 3) := by decide +kernel
theorem dX5_begin_8 : decode cX5_begin 8 = .ok (.iconst 0, 1) := by decide +kernel
theorem dX5_begin_9 : decode cX5_begin 9 = .ok (.istore_n 2, 1) := by decide +kernel
theorem dX5_begin_10 : decode cX5_begin 10 = .ok (.iload_n 2, 1) := by decide +kernel
theorem dX5_begin_11 : decode cX5_begin 11 = .ok (.aload_n 0, 1) := by decide +kernel
theorem dX5_begin_12 : decode cX5_begin 12 = .ok (.getfield 15, 3) := by decide +kernel
theorem dX5_begin_15 : decode cX5_begin 15 = .ok (.if_icmp .ge 20, 3) := by decide +kernel
theorem dX5_begin_18 : decode cX5_begin 18 = .ok (.aload_n 0, 1) := by decide +kernel
theorem dX5_begin_19 : decode cX5_begin 19 = .ok (.getfield 9, 3) := by decide +kernel
theorem dX5_begin_22 : decode cX5_begin 22 = .ok (.iload_n 2, 1) := by decide +kernel
theorem dX5_begin_23 : decode cX5_begin 23 = .ok (.aload_n 1, 1) := by decide +kernel
theorem dX5_begin_24 : decode cX5_begin 24 = .ok (.iload_n 2, 1) := by decide +kernel
theorem dX5_begin_25 : decode cX5_begin 25 = .ok (.invokevirtual 71, 3) := by decide +kernel
theorem dX5_begin_28 : decode cX5_begin 28 = .ok (.iastore, 1) := by decide +kernel
theorem dX5_begin_29 : decode cX5_begin 29 = .ok (.iinc 2 1, 3) := by decide +kernel
theorem dX5_begin_32 : decode cX5_begin 32 = .ok (.goto (-22), 3) := by decide +kernel
theorem dX5_begin_35 : decode cX5_begin 35 = .ok (.aload_n 0, 1) := by decide +kernel
theorem dX5_begin_36 : decode cX5_begin 36 = .ok (.iconst 0, 1) := by decide +kernel
theorem dX5_begin_37 : decode cX5_begin 37 = .ok (.putfield 19, 3) := by decide +kernel
theorem dX5_begin_40 : decode cX5_begin 40 = .ok (.aload_n 0, 1) := by decide +kernel
theorem dX5_begin_41 : decode cX5_begin 41 = .ok (.iconst (-1), 1) := by decide +kernel
theorem dX5_begin_42 : decode cX5_begin 42 = .ok (.putfield 25, 3) := by decide +kernel
theorem dX5_begin_45 : decode cX5_begin 45 = .ok (.return_, 1) := by decide +kernel
theorem dX5_failAt_0 : decode cX5_failAt 0 = .ok (.aload_n 0, 1) := by decide +kernel
theorem dX5_failAt_1 : decode cX5_failAt 1 = .ok (.iload_n 1, 1) := by decide +kernel
theorem dX5_failAt_2 : decode cX5_failAt 2 = .ok (.putfield 25, 3) := by decide +kernel
theorem dX5_failAt_5 : decode cX5_failAt 5 = .ok (.iconst 0, 1) := by decide +kernel
theorem dX5_failAt_6 : decode cX5_failAt 6 = .ok (.ireturn, 1) := by decide +kernel
theorem dX5_isNext_0 : decode cX5_isNext 0 = .ok (.aload_n 0, 1) := by decide +kernel
theorem dX5_isNext_1 : decode cX5_isNext 1 = .ok (.getfield 19, 3) := by decide +kernel
theorem dX5_isNext_4 : decode cX5_isNext 4 = .ok (.aload_n 0, 1) := by decide +kernel
theorem dX5_isNext_5 : decode cX5_isNext 5 = .ok (.getfield 15, 3) := by decide +kernel
theorem dX5_isNext_8 : decode cX5_isNext 8 = .ok (.if_icmp .ge 20, 3) := by decide +kernel
theorem dX5_isNext_11 : decode cX5_isNext 11 = .ok (.aload_n 0, 1) := by decide +kernel
theorem dX5_isNext_12 : decode cX5_isNext 12 = .ok (.getfield 9, 3) := by decide +kernel
theorem dX5_isNext_15 : decode cX5_isNext 15 = .ok (.aload_n 0, 1) := by decide +kernel
theorem dX5_isNext_16 : decode cX5_isNext 16 = .ok (.getfield 19, 3) := by decide +kernel
theorem dX5_isNext_19 : decode cX5_isNext 19 = .ok (.iaload, 1) := by decide +kernel
theorem dX5_isNext_20 : decode cX5_isNext 20 = .ok (.iload_n 1, 1) := by decide +kernel
theorem dX5_isNext_21 : decode cX5_isNext 21 = .ok (.if_icmp .ne 7, 3) := by decide +kernel
theorem dX5_isNext_24 : decode cX5_isNext 24 = .ok (.iconst 1, 1) := by decide +kernel
theorem dX5_isNext_25 : decode cX5_isNext 25 = .ok (.goto 4, 3) := by decide +kernel
theorem dX5_isNext_28 : decode cX5_isNext 28 = .ok (.iconst 0, 1) := by decide +kernel
theorem dX5_isNext_29 : decode cX5_isNext 29 = .ok (.ireturn, 1) := by decide +kernel
theorem dX5_take_0 : decode cX5_take 0 = .ok (.aload_n 0, 1) := by decide +kernel
theorem dX5_take_1 : decode cX5_take 1 = .ok (.iload_n 1, 1) := by decide +kernel
theorem dX5_take_2 : decode cX5_take 2 = .ok (.invokevirtual 75, 3) := by decide +kernel
theorem dX5_take_5 : decode cX5_take 5 = .ok (.ifCond .ne 12, 3) := by decide +kernel
theorem dX5_take_8 : decode cX5_take 8 = .ok (.aload_n 0, 1) := by decide +kernel
theorem dX5_take_9 : decode cX5_take 9 = .ok (.aload_n 0, 1) := by decide +kernel
theorem dX5_take_10 : decode cX5_take 10 = .ok (.getfield 19, 3) := by decide +kernel
theorem dX5_take_13 : decode cX5_take 13 = .ok (.invokevirtual 63, 3) := by decide +kernel
theorem dX5_take_16 : decode cX5_take 16 = .ok (.ireturn, 1) := by decide +kernel
theorem dX5_take_17 : decode cX5_take 17 = .ok (.aload_n 0, 1) := by decide +kernel
theorem dX5_take_18 : decode cX5_take 18 = .ok (.dup, 1) := by decide +kernel
theorem dX5_take_19 : decode cX5_take 19 = .ok (.getfield 19, 3) := by decide +kernel
theorem dX5_take_22 : decode cX5_take 22 = .ok (.iconst 1, 1) := by decide +kernel
theorem dX5_take_23 : decode cX5_take 23 = .ok (.iadd, 1) := by decide +kernel
theorem dX5_take_24 : decode cX5_take 24 = .ok (.putfield 19, 3) := by decide +kernel
theorem dX5_take_27 : decode cX5_take 27 = .ok (.iconst 1, 1) := by decide +kernel
theorem dX5_take_28 : decode cX5_take 28 = .ok (.ireturn, 1) := by decide +kernel
theorem dX5_takeAll_0 : decode cX5_takeAll 0 = .ok (.iconst 0, 1) := by decide +kernel
theorem dX5_takeAll_1 : decode cX5_takeAll 1 = .ok (.istore_n 2, 1) := by decide +kernel
theorem dX5_takeAll_2 : decode cX5_takeAll 2 = .ok (.iload_n 2, 1) := by decide +kernel
theorem dX5_takeAll_3 : decode cX5_takeAll 3 = .ok (.aload_n 1, 1) := by decide +kernel
theorem dX5_takeAll_4 : decode cX5_takeAll 4 = .ok (.invokevirtual 79, 3) := by decide +kernel
theorem dX5_takeAll_7 : decode cX5_takeAll 7 = .ok (.if_icmp .ge 23, 3) := by decide +kernel
theorem dX5_takeAll_10 : decode cX5_takeAll 10 = .ok (.aload_n 0, 1) := by decide +kernel
theorem dX5_takeAll_11 : decode cX5_takeAll 11 = .ok (.aload_n 1, 1) := by decide +kernel
theorem dX5_takeAll_12 : decode cX5_takeAll 12 = .ok (.iload_n 2, 1) := by decide +kernel
theorem dX5_takeAll_13 : decode cX5_takeAll 13 = .ok (.invokevirtual 84, 3) := by decide +kernel
theorem dX5_takeAll_16 : decode cX5_takeAll 16 = .ok (.invokevirtual 88, 3) := by decide +kernel
theorem dX5_takeAll_19 : decode cX5_takeAll 19 = .ok (.ifCond .ne 5, 3) := by decide +kernel
theorem dX5_takeAll_22 : decode cX5_takeAll 22 = .ok (.iconst 0, 1) := by decide +kernel
theorem dX5_takeAll_23 : decode cX5_takeAll 23 = .ok (.ireturn, 1) := by decide +kernel
theorem dX5_takeAll_24 : decode cX5_takeAll 24 = .ok (.iinc 2 1, 3) := by decide +kernel
theorem dX5_takeAll_27 : decode cX5_takeAll 27 = .ok (.goto (-25), 3) := by decide +kernel
theorem dX5_takeAll_30 : decode cX5_takeAll 30 = .ok (.iconst 1, 1) := by decide +kernel
theorem dX5_takeAll_31 : decode cX5_takeAll 31 = .ok (.ireturn, 1) := by decide +kernel
theorem dX5_goesOn_0 : decode cX5_goesOn 0 = .ok (.aload_n 0, 1) := by decide +kernel
theorem dX5_goesOn_1 : decode cX5_goesOn 1 = .ok (.getfield 19, 3) := by decide +kernel
theorem dX5_goesOn_4 : decode cX5_goesOn 4 = .ok (.aload_n 0, 1) := by decide +kernel
theorem dX5_goesOn_5 : decode cX5_goesOn 5 = .ok (.getfield 15, 3) := by decide +kernel
theorem dX5_goesOn_8 : decode cX5_goesOn 8 = .ok (.if_icmp .ge 16, 3) := by decide +kernel
theorem dX5_goesOn_11 : decode cX5_goesOn 11 = .ok (.aload_n 0, 1) := by decide +kernel
theorem dX5_goesOn_12 : decode cX5_goesOn 12 = .ok (.bipush 59, 2) := by decide +kernel
theorem dX5_goesOn_14 : decode cX5_goesOn 14 = .ok (.invokevirtual 88, 3) := by decide +kernel
theorem dX5_goesOn_17 : decode cX5_goesOn 17 = .ok (.ifCond .eq 7, 3) := by decide +kernel
theorem dX5_goesOn_20 : decode cX5_goesOn 20 = .ok (.iconst 1, 1) := by decide +kernel
theorem dX5_goesOn_21 : decode cX5_goesOn 21 = .ok (.goto 4, 3) := by decide +kernel
theorem dX5_goesOn_24 : decode cX5_goesOn 24 = .ok (.iconst 0, 1) := by decide +kernel
theorem dX5_goesOn_25 : decode cX5_goesOn 25 = .ok (.ireturn, 1) := by decide +kernel
theorem dX5_isDigitNext_0 : decode cX5_isDigitNext 0 = .ok (.aload_n 0, 1) := by decide +kernel
theorem dX5_isDigitNext_1 : decode cX5_isDigitNext 1 = .ok (.getfield 19, 3) := by decide +kernel
theorem dX5_isDigitNext_4 : decode cX5_isDigitNext 4 = .ok (.aload_n 0, 1) := by decide +kernel
theorem dX5_isDigitNext_5 : decode cX5_isDigitNext 5 = .ok (.getfield 15, 3) := by decide +kernel
theorem dX5_isDigitNext_8 : decode cX5_isDigitNext 8 = .ok (.if_icmp .ge 35, 3) := by decide +kernel
theorem dX5_isDigitNext_11 : decode cX5_isDigitNext 11 = .ok (.aload_n 0, 1) := by decide +kernel
theorem dX5_isDigitNext_12 : decode cX5_isDigitNext 12 = .ok (.getfield 9, 3) := by decide +kernel
theorem dX5_isDigitNext_15 : decode cX5_isDigitNext 15 = .ok (.aload_n 0, 1) := by decide +kernel
theorem dX5_isDigitNext_16 : decode cX5_isDigitNext 16 = .ok (.getfield 19, 3) := by decide +kernel
theorem dX5_isDigitNext_19 : decode cX5_isDigitNext 19 = .ok (.iaload, 1) := by decide +kernel
theorem dX5_isDigitNext_20 : decode cX5_isDigitNext 20 = .ok (.bipush 48, 2) := by decide +kernel
theorem dX5_isDigitNext_22 : decode cX5_isDigitNext 22 = .ok (.if_icmp .lt 21, 3) := by decide +kernel
theorem dX5_isDigitNext_25 : decode cX5_isDigitNext 25 = .ok (.aload_n 0, 1) := by decide +kernel
theorem dX5_isDigitNext_26 : decode cX5_isDigitNext 26 = .ok (.getfield 9, 3) := by decide +kernel
theorem dX5_isDigitNext_29 : decode cX5_isDigitNext 29 = .ok (.aload_n 0, 1) := by decide +kernel
theorem dX5_isDigitNext_30 : decode cX5_isDigitNext 30 = .ok (.getfield 19, 3) := by decide +kernel
theorem dX5_isDigitNext_33 : decode cX5_isDigitNext 33 = .ok (.iaload, 1) := by decide +kernel
theorem dX5_isDigitNext_34 : decode cX5_isDigitNext 34 = .ok (.bipush 57, 2) := by decide +kernel
theorem dX5_isDigitNext_36 : decode cX5_isDigitNext 36 = .ok (.if_icmp .gt 7, 3) := by decide +kernel
theorem dX5_isDigitNext_39 : decode cX5_isDigitNext 39 = .ok (.iconst 1, 1) := by decide +kernel
theorem dX5_isDigitNext_40 : decode cX5_isDigitNext 40 = .ok (.goto 4, 3) := by decide +kernel
theorem dX5_isDigitNext_43 : decode cX5_isDigitNext 43 = .ok (.iconst 0, 1) := by decide +kernel
theorem dX5_isDigitNext_44 : decode cX5_isDigitNext 44 = .ok (.ireturn, 1) := by decide +kernel
theorem dX5_readNumber_0 : decode cX5_readNumber 0 = .ok (.aload_n 0, 1) := by decide +kernel
theorem dX5_readNumber_1 : decode cX5_readNumber 1 = .ok (.getfield 19, 3) := by decide +kernel
theorem dX5_readNumber_4 : decode cX5_readNumber 4 = .ok (.istore_n 3, 1) := by decide +kernel
theorem dX5_readNumber_5 : decode cX5_readNumber 5 = .ok (.aload_n 0, 1) := by decide +kernel
theorem dX5_readNumber_6 : decode cX5_readNumber 6 = .ok (.iconst 0, 1) := by decide +kernel
theorem dX5_readNumber_7 : decode cX5_readNumber 7 = .ok (.putfield 22, 3) := by decide +kernel
theorem dX5_readNumber_10 : decode cX5_readNumber 10 = .ok (.aload_n 0, 1) := by decide +kernel
theorem dX5_readNumber_11 : decode cX5_readNumber 11 = .ok (.getfield 19, 3) := by decide +kernel
theorem dX5_readNumber_14 : decode cX5_readNumber 14 = .ok (.iload_n 3, 1) := by decide +kernel
theorem dX5_readNumber_15 : decode cX5_readNumber 15 = .ok (.iconst 3, 1) := by decide +kernel
theorem dX5_readNumber_16 : decode cX5_readNumber 16 = .ok (.iadd, 1) := by decide +kernel
theorem dX5_readNumber_17 : decode cX5_readNumber 17 = .ok (.if_icmp .ge 47, 3) := by decide +kernel
theorem dX5_readNumber_20 : decode cX5_readNumber 20 = .ok (.aload_n 0, 1) := by decide +kernel
theorem dX5_readNumber_21 : decode cX5_readNumber 21 = .ok (.invokevirtual 91, 3) := by decide +kernel
theorem dX5_readNumber_24 : decode cX5_readNumber 24 = .ok (.ifCond .eq 40, 3) := by decide +kernel
theorem dX5_readNumber_27 : decode cX5_readNumber 27 = .ok (.aload_n 0, 1) := by decide +kernel
theorem dX5_readNumber_28 : decode cX5_readNumber 28 = .ok (.aload_n 0, 1) := by decide +kernel
theorem dX5_readNumber_29 : decode cX5_readNumber 29 = .ok (.getfield 22, 3) := by decide +kernel
theorem dX5_readNumber_32 : decode cX5_readNumber 32 = .ok (.bipush 10, 2) := by decide +kernel
theorem dX5_readNumber_34 : decode cX5_readNumber 34 = .ok (.imul, 1) := by decide +kernel
theorem dX5_readNumber_35 : decode cX5_readNumber 35 = .ok (.aload_n 0, 1) := by decide +kernel
theorem dX5_readNumber_36 : decode cX5_readNumber 36 = .ok (.getfield 9, 3) := by decide +kernel
theorem dX5_readNumber_39 : decode cX5_readNumber 39 = .ok (.aload_n 0, 1) := by decide +kernel
theorem dX5_readNumber_40 : decode cX5_readNumber 40 = .ok (.getfield 19, 3) := by decide +kernel
theorem dX5_readNumber_43 : decode cX5_readNumber 43 = .ok (.iaload, 1) := by decide +kernel
theorem dX5_readNumber_44 : decode cX5_readNumber 44 = .ok (.iadd, 1) := by decide +kernel
theorem dX5_readNumber_45 : decode cX5_readNumber 45 = .ok (.bipush 48, 2) := by decide +kernel
theorem dX5_readNumber_47 : decode cX5_readNumber 47 = .ok (.isub, 1) := by decide +kernel
theorem dX5_readNumber_48 : decode cX5_readNumber 48 = .ok (.putfield 22, 3) := by decide +kernel
theorem dX5_readNumber_51 : decode cX5_readNumber 51 = .ok (.aload_n 0, 1) := by decide +kernel
theorem dX5_readNumber_52 : decode cX5_readNumber 52 = .ok (.dup, 1) := by decide +kernel
theorem dX5_readNumber_53 : decode cX5_readNumber 53 = .ok (.getfield 19, 3) := by decide +kernel
theorem dX5_readNumber_56 : decode cX5_readNumber 56 = .ok (.iconst 1, 1) := by decide +kernel
theorem dX5_readNumber_57 : decode cX5_readNumber 57 = .ok (.iadd, 1) := by decide +kernel
theorem dX5_readNumber_58 : decode cX5_readNumber 58 = .ok (.putfield 19, 3) := by decide +kernel
theorem dX5_readNumber_61 : decode cX5_readNumber 61 = .ok (.goto (-51), 3) := by decide +kernel
theorem dX5_readNumber_64 : decode cX5_readNumber 64 = .ok (.aload_n 0, 1) := by decide +kernel
theorem dX5_readNumber_65 : decode cX5_readNumber 65 = .ok (.getfield 19, 3) := by decide +kernel
theorem dX5_readNumber_68 : decode cX5_readNumber 68 = .ok (.iload_n 3, 1) := by decide +kernel
theorem dX5_readNumber_69 : decode cX5_readNumber 69 = .ok (.if_icmp .le 15, 3) := by decide +kernel
theorem dX5_readNumber_72 : decode cX5_readNumber 72 = .ok (.aload_n 0, 1) := by decide +kernel
theorem dX5_readNumber_73 : decode cX5_readNumber 73 = .ok (.getfield 22, 3) := by decide +kernel
theorem dX5_readNumber_76 : decode cX5_readNumber 76 = .ok (.iload_n 1, 1) := by decide +kernel
theorem dX5_readNumber_77 : decode cX5_readNumber 77 = .ok (.iload_n 2, 1) := by decide +kernel
theorem dX5_readNumber_78 : decode cX5_readNumber 78 = .ok (.invokestatic 94, 3) := by decide +kernel
theorem dX5_readNumber_81 : decode cX5_readNumber 81 = .ok (.ifCond .ne 11, 3) := by decide +kernel
theorem dX5_readNumber_84 : decode cX5_readNumber 84 = .ok (.aload_n 0, 1) := by decide +kernel
theorem dX5_readNumber_85 : decode cX5_readNumber 85 = .ok (.iload_n 3, 1) := by decide +kernel
theorem dX5_readNumber_86 : decode cX5_readNumber 86 = .ok (.invokevirtual 63, 3) := by decide +kernel
theorem dX5_readNumber_89 : decode cX5_readNumber 89 = .ok (.ifCond .eq 7, 3) := by decide +kernel
theorem dX5_readNumber_92 : decode cX5_readNumber 92 = .ok (.iconst 1, 1) := by decide +kernel
theorem dX5_readNumber_93 : decode cX5_readNumber 93 = .ok (.goto 4, 3) := by decide +kernel
theorem dX5_readNumber_96 : decode cX5_readNumber 96 = .ok (.iconst 0, 1) := by decide +kernel
theorem dX5_readNumber_97 : decode cX5_readNumber 97 = .ok (.ireturn, 1) := by decide +kernel
theorem dX5_readLaw_0 : decode cX5_readLaw 0 = .ok (.iconst 0, 1) := by decide +kernel
theorem dX5_readLaw_1 : decode cX5_readLaw 1 = .ok (.istore_n 1, 1) := by decide +kernel
theorem dX5_readLaw_2 : decode cX5_readLaw 2 = .ok (.iload_n 1, 1) := by decide +kernel
theorem dX5_readLaw_3 : decode cX5_readLaw 3 = .ok (.bipush 6, 2) := by decide +kernel
theorem dX5_readLaw_5 : decode cX5_readLaw 5 = .ok (.if_icmp .ge 30, 3) := by decide +kernel
theorem dX5_readLaw_8 : decode cX5_readLaw 8 = .ok (.aload_n 0, 1) := by decide +kernel
theorem dX5_readLaw_9 : decode cX5_readLaw 9 = .ok (.iload_n 1, 1) := by decide +kernel
theorem dX5_readLaw_10 : decode cX5_readLaw 10 = .ok (.invokestatic 98, 3) := by decide +kernel
theorem dX5_readLaw_13 : decode cX5_readLaw 13 = .ok (.iconst 0, 1) := by decide +kernel
theorem dX5_readLaw_14 : decode cX5_readLaw 14 = .ok (.invokevirtual 84, 3) := by decide +kernel
theorem dX5_readLaw_17 : decode cX5_readLaw 17 = .ok (.invokevirtual 75, 3) := by decide +kernel
theorem dX5_readLaw_20 : decode cX5_readLaw 20 = .ok (.ifCond .eq 9, 3) := by decide +kernel
theorem dX5_readLaw_23 : decode cX5_readLaw 23 = .ok (.aload_n 0, 1) := by decide +kernel
theorem dX5_readLaw_24 : decode cX5_readLaw 24 = .ok (.iload_n 1, 1) := by decide +kernel
theorem dX5_readLaw_25 : decode cX5_readLaw 25 = .ok (.invokevirtual 102, 3) := by decide +kernel
theorem dX5_readLaw_28 : decode cX5_readLaw 28 = .ok (.ireturn, 1) := by decide +kernel
theorem dX5_readLaw_29 : decode cX5_readLaw 29 = .ok (.iinc 1 1, 3) := by decide +kernel
theorem dX5_readLaw_32 : decode cX5_readLaw 32 = .ok (.goto (-30), 3) := by decide +kernel
theorem dX5_readLaw_35 : decode cX5_readLaw 35 = .ok (.aload_n 0, 1) := by decide +kernel
theorem dX5_readLaw_36 : decode cX5_readLaw 36 = .ok (.aload_n 0, 1) := by decide +kernel
theorem dX5_readLaw_37 : decode cX5_readLaw 37 = .ok (.getfield 19, 3) := by decide +kernel
theorem dX5_readLaw_40 : decode cX5_readLaw 40 = .ok (.invokevirtual 63, 3) := by decide +kernel
theorem dX5_readLaw_43 : decode cX5_readLaw 43 = .ok (.ireturn, 1) := by decide +kernel
theorem dX5_readLawOf_0 : decode cX5_readLawOf 0 = .ok (.aload_n 0, 1) := by decide +kernel
theorem dX5_readLawOf_1 : decode cX5_readLawOf 1 = .ok (.iload_n 1, 1) := by decide +kernel
theorem dX5_readLawOf_2 : decode cX5_readLawOf 2 = .ok (.invokestatic 98, 3) := by decide +kernel
theorem dX5_readLawOf_5 : decode cX5_readLawOf 5 = .ok (.invokevirtual 105, 3) := by decide +kernel
theorem dX5_readLawOf_8 : decode cX5_readLawOf 8 = .ok (.ifCond .eq 20, 3) := by decide +kernel
theorem dX5_readLawOf_11 : decode cX5_readLawOf 11 = .ok (.aload_n 0, 1) := by decide +kernel
theorem dX5_readLawOf_12 : decode cX5_readLawOf 12 = .ok (.getstatic 109, 3) := by decide +kernel
theorem dX5_readLawOf_15 : decode cX5_readLawOf 15 = .ok (.iload_n 1, 1) := by decide +kernel
theorem dX5_readLawOf_16 : decode cX5_readLawOf 16 = .ok (.iaload, 1) := by decide +kernel
theorem dX5_readLawOf_17 : decode cX5_readLawOf 17 = .ok (.getstatic 112, 3) := by decide +kernel
theorem dX5_readLawOf_20 : decode cX5_readLawOf 20 = .ok (.iload_n 1, 1) := by decide +kernel
theorem dX5_readLawOf_21 : decode cX5_readLawOf 21 = .ok (.iaload, 1) := by decide +kernel
theorem dX5_readLawOf_22 : decode cX5_readLawOf 22 = .ok (.invokevirtual 115, 3) := by decide +kernel
theorem dX5_readLawOf_25 : decode cX5_readLawOf 25 = .ok (.ifCond .ne 5, 3) := by decide +kernel
theorem dX5_readLawOf_28 : decode cX5_readLawOf 28 = .ok (.iconst 0, 1) := by decide +kernel
theorem dX5_readLawOf_29 : decode cX5_readLawOf 29 = .ok (.ireturn, 1) := by decide +kernel
theorem dX5_readLawOf_30 : decode cX5_readLawOf 30 = .ok (.aload_n 0, 1) := by decide +kernel
theorem dX5_readLawOf_31 : decode cX5_readLawOf 31 = .ok (.getfield 31, 3) := by decide +kernel
theorem dX5_readLawOf_34 : decode cX5_readLawOf 34 = .ok (.iload_n 1, 1) := by decide +kernel
theorem dX5_readLawOf_35 : decode cX5_readLawOf 35 = .ok (.aload_n 0, 1) := by decide +kernel
theorem dX5_readLawOf_36 : decode cX5_readLawOf 36 = .ok (.getfield 22, 3) := by decide +kernel
theorem dX5_readLawOf_39 : decode cX5_readLawOf 39 = .ok (.iastore, 1) := by decide +kernel
theorem dX5_readLawOf_40 : decode cX5_readLawOf 40 = .ok (.aload_n 0, 1) := by decide +kernel
theorem dX5_readLawOf_41 : decode cX5_readLawOf 41 = .ok (.dup, 1) := by decide +kernel
theorem dX5_readLawOf_42 : decode cX5_readLawOf 42 = .ok (.getfield 28, 3) := by decide +kernel
theorem dX5_readLawOf_45 : decode cX5_readLawOf 45 = .ok (.iconst 1, 1) := by decide +kernel
theorem dX5_readLawOf_46 : decode cX5_readLawOf 46 = .ok (.iadd, 1) := by decide +kernel
theorem dX5_readLawOf_47 : decode cX5_readLawOf 47 = .ok (.putfield 28, 3) := by decide +kernel
theorem dX5_readLawOf_50 : decode cX5_readLawOf 50 = .ok (.iconst 1, 1) := by decide +kernel
theorem dX5_readLawOf_51 : decode cX5_readLawOf 51 = .ok (.ireturn, 1) := by decide +kernel
theorem dX5_lawName_0 : decode cX5_lawName 0 = .ok (.iload_n 0, 1) := by decide +kernel
theorem dX5_lawName_1 : decode cX5_lawName 1 = .ok (.tableswitch 50 0 4 #[35, 38, 41, 44, 47], 35) := by decide +kernel
theorem dX5_lawName_36 : decode cX5_lawName 36 = .ok (.ldc 119, 2) := by decide +kernel
theorem dX5_lawName_38 : decode cX5_lawName 38 = .ok (.areturn, 1) := by decide +kernel
theorem dX5_lawName_39 : decode cX5_lawName 39 = .ok (.ldc 121, 2) := by decide +kernel
theorem dX5_lawName_41 : decode cX5_lawName 41 = .ok (.areturn, 1) := by decide +kernel
theorem dX5_lawName_42 : decode cX5_lawName 42 = .ok (.ldc 123, 2) := by decide +kernel
theorem dX5_lawName_44 : decode cX5_lawName 44 = .ok (.areturn, 1) := by decide +kernel
theorem dX5_lawName_45 : decode cX5_lawName 45 = .ok (.ldc 125, 2) := by decide +kernel
theorem dX5_lawName_47 : decode cX5_lawName 47 = .ok (.areturn, 1) := by decide +kernel
theorem dX5_lawName_48 : decode cX5_lawName 48 = .ok (.ldc 127, 2) := by decide +kernel
theorem dX5_lawName_50 : decode cX5_lawName 50 = .ok (.areturn, 1) := by decide +kernel
theorem dX5_lawName_51 : decode cX5_lawName 51 = .ok (.ldc 129, 2) := by decide +kernel
theorem dX5_lawName_53 : decode cX5_lawName 53 = .ok (.areturn, 1) := by decide +kernel
theorem dX5_readItem_0 : decode cX5_readItem 0 = .ok (.aload_n 0, 1) := by decide +kernel
theorem dX5_readItem_1 : decode cX5_readItem 1 = .ok (.bipush 111, 2) := by decide +kernel
theorem dX5_readItem_3 : decode cX5_readItem 3 = .ok (.invokevirtual 88, 3) := by decide +kernel
theorem dX5_readItem_6 : decode cX5_readItem 6 = .ok (.ifCond .ne 5, 3) := by decide +kernel
theorem dX5_readItem_9 : decode cX5_readItem 9 = .ok (.iconst 0, 1) := by decide +kernel
theorem dX5_readItem_10 : decode cX5_readItem 10 = .ok (.ireturn, 1) := by decide +kernel
theorem dX5_readItem_11 : decode cX5_readItem 11 = .ok (.aload_n 0, 1) := by decide +kernel
theorem dX5_readItem_12 : decode cX5_readItem 12 = .ok (.bipush 110, 2) := by decide +kernel
theorem dX5_readItem_14 : decode cX5_readItem 14 = .ok (.invokevirtual 75, 3) := by decide +kernel
theorem dX5_readItem_17 : decode cX5_readItem 17 = .ok (.ifCond .ne 7, 3) := by decide +kernel
theorem dX5_readItem_20 : decode cX5_readItem 20 = .ok (.iconst 1, 1) := by decide +kernel
theorem dX5_readItem_21 : decode cX5_readItem 21 = .ok (.goto 4, 3) := by decide +kernel
theorem dX5_readItem_24 : decode cX5_readItem 24 = .ok (.iconst 0, 1) := by decide +kernel
theorem dX5_readItem_25 : decode cX5_readItem 25 = .ok (.istore_n 2, 1) := by decide +kernel
theorem dX5_readItem_26 : decode cX5_readItem 26 = .ok (.aload_n 0, 1) := by decide +kernel
theorem dX5_readItem_27 : decode cX5_readItem 27 = .ok (.iload_n 2, 1) := by decide +kernel
theorem dX5_readItem_28 : decode cX5_readItem 28 = .ok (.ifCond .eq 8, 3) := by decide +kernel
theorem dX5_readItem_31 : decode cX5_readItem 31 = .ok (.ldc 131, 2) := by decide +kernel
theorem dX5_readItem_33 : decode cX5_readItem 33 = .ok (.goto 5, 3) := by decide +kernel
theorem dX5_readItem_36 : decode cX5_readItem 36 = .ok (.ldc 133, 2) := by decide +kernel
theorem dX5_readItem_38 : decode cX5_readItem 38 = .ok (.invokevirtual 105, 3) := by decide +kernel
theorem dX5_readItem_41 : decode cX5_readItem 41 = .ok (.ifCond .eq 14, 3) := by decide +kernel
theorem dX5_readItem_44 : decode cX5_readItem 44 = .ok (.aload_n 0, 1) := by decide +kernel
theorem dX5_readItem_45 : decode cX5_readItem 45 = .ok (.iconst 0, 1) := by decide +kernel
theorem dX5_readItem_46 : decode cX5_readItem 46 = .ok (.iload_n 1, 1) := by decide +kernel
theorem dX5_readItem_47 : decode cX5_readItem 47 = .ok (.iconst 1, 1) := by decide +kernel
theorem dX5_readItem_48 : decode cX5_readItem 48 = .ok (.isub, 1) := by decide +kernel
theorem dX5_readItem_49 : decode cX5_readItem 49 = .ok (.invokevirtual 115, 3) := by decide +kernel
theorem dX5_readItem_52 : decode cX5_readItem 52 = .ok (.ifCond .ne 5, 3) := by decide +kernel
theorem dX5_readItem_55 : decode cX5_readItem 55 = .ok (.iconst 0, 1) := by decide +kernel
theorem dX5_readItem_56 : decode cX5_readItem 56 = .ok (.ireturn, 1) := by decide +kernel
theorem dX5_readItem_57 : decode cX5_readItem 57 = .ok (.aload_n 0, 1) := by decide +kernel
theorem dX5_readItem_58 : decode cX5_readItem 58 = .ok (.getfield 22, 3) := by decide +kernel
theorem dX5_readItem_61 : decode cX5_readItem 61 = .ok (.istore_n 3, 1) := by decide +kernel
theorem dX5_readItem_62 : decode cX5_readItem 62 = .ok (.aload_n 0, 1) := by decide +kernel
theorem dX5_readItem_63 : decode cX5_readItem 63 = .ok (.ldc 135, 2) := by decide +kernel
theorem dX5_readItem_65 : decode cX5_readItem 65 = .ok (.invokevirtual 105, 3) := by decide +kernel
theorem dX5_readItem_68 : decode cX5_readItem 68 = .ok (.ifCond .eq 14, 3) := by decide +kernel
theorem dX5_readItem_71 : decode cX5_readItem 71 = .ok (.aload_n 0, 1) := by decide +kernel
theorem dX5_readItem_72 : decode cX5_readItem 72 = .ok (.iconst 0, 1) := by decide +kernel
theorem dX5_readItem_73 : decode cX5_readItem 73 = .ok (.sipush 239, 3) := by decide +kernel
theorem dX5_readItem_76 : decode cX5_readItem 76 = .ok (.invokevirtual 115, 3) := by decide +kernel
theorem dX5_readItem_79 : decode cX5_readItem 79 = .ok (.ifCond .ne 5, 3) := by decide +kernel
theorem dX5_readItem_82 : decode cX5_readItem 82 = .ok (.iconst 0, 1) := by decide +kernel
theorem dX5_readItem_83 : decode cX5_readItem 83 = .ok (.ireturn, 1) := by decide +kernel
theorem dX5_readItem_84 : decode cX5_readItem 84 = .ok (.aload_n 0, 1) := by decide +kernel
theorem dX5_readItem_85 : decode cX5_readItem 85 = .ok (.getfield 22, 3) := by decide +kernel
theorem dX5_readItem_88 : decode cX5_readItem 88 = .ok (.istore 4, 2) := by decide +kernel
theorem dX5_readItem_90 : decode cX5_readItem 90 = .ok (.aload_n 0, 1) := by decide +kernel
theorem dX5_readItem_91 : decode cX5_readItem 91 = .ok (.ldc 137, 2) := by decide +kernel
theorem dX5_readItem_93 : decode cX5_readItem 93 = .ok (.invokevirtual 105, 3) := by decide +kernel
theorem dX5_readItem_96 : decode cX5_readItem 96 = .ok (.ifCond .eq 15, 3) := by decide +kernel
theorem dX5_readItem_99 : decode cX5_readItem 99 = .ok (.aload_n 0, 1) := by decide +kernel
theorem dX5_readItem_100 : decode cX5_readItem 100 = .ok (.iload 4, 2) := by decide +kernel
theorem dX5_readItem_102 : decode cX5_readItem 102 = .ok (.sipush 239, 3) := by decide +kernel
theorem dX5_readItem_105 : decode cX5_readItem 105 = .ok (.invokevirtual 115, 3) := by decide +kernel
theorem dX5_readItem_108 : decode cX5_readItem 108 = .ok (.ifCond .ne 5, 3) := by decide +kernel
theorem dX5_readItem_111 : decode cX5_readItem 111 = .ok (.iconst 0, 1) := by decide +kernel
theorem dX5_readItem_112 : decode cX5_readItem 112 = .ok (.ireturn, 1) := by decide +kernel
theorem dX5_readItem_113 : decode cX5_readItem 113 = .ok (.aload_n 0, 1) := by decide +kernel
theorem dX5_readItem_114 : decode cX5_readItem 114 = .ok (.getfield 22, 3) := by decide +kernel
theorem dX5_readItem_117 : decode cX5_readItem 117 = .ok (.istore 5, 2) := by decide +kernel
theorem dX5_readItem_119 : decode cX5_readItem 119 = .ok (.aload_n 0, 1) := by decide +kernel
theorem dX5_readItem_120 : decode cX5_readItem 120 = .ok (.bipush 32, 2) := by decide +kernel
theorem dX5_readItem_122 : decode cX5_readItem 122 = .ok (.invokevirtual 75, 3) := by decide +kernel
theorem dX5_readItem_125 : decode cX5_readItem 125 = .ok (.istore 6, 2) := by decide +kernel
theorem dX5_readItem_127 : decode cX5_readItem 127 = .ok (.iload 6, 2) := by decide +kernel
theorem dX5_readItem_129 : decode cX5_readItem 129 = .ok (.ifCond .eq 24, 3) := by decide +kernel
theorem dX5_readItem_132 : decode cX5_readItem 132 = .ok (.aload_n 0, 1) := by decide +kernel
theorem dX5_readItem_133 : decode cX5_readItem 133 = .ok (.ldc 139, 2) := by decide +kernel
theorem dX5_readItem_135 : decode cX5_readItem 135 = .ok (.invokevirtual 105, 3) := by decide +kernel
theorem dX5_readItem_138 : decode cX5_readItem 138 = .ok (.ifCond .eq 13, 3) := by decide +kernel
theorem dX5_readItem_141 : decode cX5_readItem 141 = .ok (.aload_n 0, 1) := by decide +kernel
theorem dX5_readItem_142 : decode cX5_readItem 142 = .ok (.iconst 1, 1) := by decide +kernel
theorem dX5_readItem_143 : decode cX5_readItem 143 = .ok (.bipush 99, 2) := by decide +kernel
theorem dX5_readItem_145 : decode cX5_readItem 145 = .ok (.invokevirtual 115, 3) := by decide +kernel
theorem dX5_readItem_148 : decode cX5_readItem 148 = .ok (.ifCond .ne 5, 3) := by decide +kernel
theorem dX5_readItem_151 : decode cX5_readItem 151 = .ok (.iconst 0, 1) := by decide +kernel
theorem dX5_readItem_152 : decode cX5_readItem 152 = .ok (.ireturn, 1) := by decide +kernel
theorem dX5_readItem_153 : decode cX5_readItem 153 = .ok (.aload_n 0, 1) := by decide +kernel
theorem dX5_readItem_154 : decode cX5_readItem 154 = .ok (.getfield 37, 3) := by decide +kernel
theorem dX5_readItem_157 : decode cX5_readItem 157 = .ok (.iload_n 2, 1) := by decide +kernel
theorem dX5_readItem_158 : decode cX5_readItem 158 = .ok (.iload_n 3, 1) := by decide +kernel
theorem dX5_readItem_159 : decode cX5_readItem 159 = .ok (.iload 4, 2) := by decide +kernel
theorem dX5_readItem_161 : decode cX5_readItem 161 = .ok (.iload 5, 2) := by decide +kernel
theorem dX5_readItem_163 : decode cX5_readItem 163 = .ok (.iload 6, 2) := by decide +kernel
theorem dX5_readItem_165 : decode cX5_readItem 165 = .ok (.ifCond .eq 10, 3) := by decide +kernel
theorem dX5_readItem_168 : decode cX5_readItem 168 = .ok (.aload_n 0, 1) := by decide +kernel
theorem dX5_readItem_169 : decode cX5_readItem 169 = .ok (.getfield 22, 3) := by decide +kernel
theorem dX5_readItem_172 : decode cX5_readItem 172 = .ok (.goto 4, 3) := by decide +kernel
theorem dX5_readItem_175 : decode cX5_readItem 175 = .ok (.iconst 0, 1) := by decide +kernel
theorem dX5_readItem_176 : decode cX5_readItem 176 = .ok (.invokevirtual 141, 3) := by decide +kernel
theorem dX5_readItem_179 : decode cX5_readItem 179 = .ok (.iconst 1, 1) := by decide +kernel
theorem dX5_readItem_180 : decode cX5_readItem 180 = .ok (.ireturn, 1) := by decide +kernel
theorem dX6_init_0 : decode cX6_init 0 = .ok (.aload_n 0, 1) := by decide +kernel
theorem dX6_init_1 : decode cX6_init 1 = .ok (.invokespecial 3, 3) := by decide +kernel
theorem dX6_init_4 : decode cX6_init 4 = .ok (.aload_n 0, 1) := by decide +kernel
theorem dX6_init_5 : decode cX6_init 5 = .ok (.new 9, 3) := by decide +kernel
theorem dX6_init_8 : decode cX6_init 8 = .ok (.dup, 1) := by decide +kernel
theorem dX6_init_9 : decode cX6_init 9 = .ok (.invokespecial 11, 3) := by decide +kernel
theorem dX6_init_12 : decode cX6_init 12 = .ok (.putfield 12, 3) := by decide +kernel
theorem dX6_init_15 : decode cX6_init 15 = .ok (.aload_n 0, 1) := by decide +kernel
theorem dX6_init_16 : decode cX6_init 16 = .ok (.bipush 14, 2) := by decide +kernel
theorem dX6_init_18 : decode cX6_init 18 = .ok (.newarray .long, 2) := by decide +kernel
theorem dX6_init_20 : decode cX6_init 20 = .ok (.putfield 18, 3) := by decide +kernel
theorem dX6_init_23 : decode cX6_init 23 = .ok (.aload_n 0, 1) := by decide +kernel
theorem dX6_init_24 : decode cX6_init 24 = .ok (.bipush 12, 2) := by decide +kernel
theorem dX6_init_26 : decode cX6_init 26 = .ok (.newarray .int, 2) := by decide +kernel
theorem dX6_init_28 : decode cX6_init 28 = .ok (.putfield 22, 3) := by decide +kernel
theorem dX6_init_31 : decode cX6_init 31 = .ok (.aload_n 0, 1) := by decide +kernel
theorem dX6_init_32 : decode cX6_init 32 = .ok (.iconst 0, 1) := by decide +kernel
theorem dX6_init_33 : decode cX6_init 33 = .ok (.putfield 26, 3) := by decide +kernel
theorem dX6_init_36 : decode cX6_init 36 = .ok (.aload_n 0, 1) := by decide +kernel
theorem dX6_init_37 : decode cX6_init 37 = .ok (.iconst 0, 1) := by decide +kernel
theorem dX6_init_38 : decode cX6_init 38 = .ok (.putfield 30, 3) := by decide +kernel
theorem dX6_init_41 : decode cX6_init 41 = .ok (.aload_n 0, 1) := by decide +kernel
theorem dX6_init_42 : decode cX6_init 42 = .ok (.iconst 0, 1) := by decide +kernel
theorem dX6_init_43 : decode cX6_init 43 = .ok (.putfield 33, 3) := by decide +kernel
theorem dX6_init_46 : decode cX6_init 46 = .ok (.aload_n 0, 1) := by decide +kernel
theorem dX6_init_47 : decode cX6_init 47 = .ok (.iconst 0, 1) := by decide +kernel
theorem dX6_init_48 : decode cX6_init 48 = .ok (.putfield 36, 3) := by decide +kernel
theorem dX6_init_51 : decode cX6_init 51 = .ok (.aload_n 0, 1) := by decide +kernel
theorem dX6_init_52 : decode cX6_init 52 = .ok (.iconst 0, 1) := by decide +kernel
theorem dX6_init_53 : decode cX6_init 53 = .ok (.putfield 39, 3) := by decide +kernel
theorem dX6_init_56 : decode cX6_init 56 = .ok (.return_, 1) := by decide +kernel
theorem dX6_weigh_0 : decode cX6_weigh 0 = .ok (.iconst 0, 1) := by decide +kernel
theorem dX6_weigh_1 : decode cX6_weigh 1 = .ok (.istore_n 2, 1) := by decide +kernel
theorem dX6_weigh_2 : decode cX6_weigh 2 = .ok (.iload_n 2, 1) := by decide +kernel
theorem dX6_weigh_3 : decode cX6_weigh 3 = .ok (.aload_n 0, 1) := by decide +kernel
theorem dX6_weigh_4 : decode cX6_weigh 4 = .ok (.getfield 12, 3) := by decide +kernel
theorem dX6_weigh_7 : decode cX6_weigh 7 = .ok (.getfield 42, 3) := by decide +kernel
theorem dX6_weigh_10 : decode cX6_weigh 10 = .ok (.if_icmp .ge 16, 3) := by decide +kernel
theorem dX6_weigh_13 : decode cX6_weigh 13 = .ok (.aload_n 0, 1) := by decide +kernel
theorem dX6_weigh_14 : decode cX6_weigh 14 = .ok (.getfield 18, 3) := by decide +kernel
theorem dX6_weigh_17 : decode cX6_weigh 17 = .ok (.iload_n 2, 1) := by decide +kernel
theorem dX6_weigh_18 : decode cX6_weigh 18 = .ok (.lconst 1, 1) := by decide +kernel
theorem dX6_weigh_19 : decode cX6_weigh 19 = .ok (.lastore, 1) := by decide +kernel
theorem dX6_weigh_20 : decode cX6_weigh 20 = .ok (.iinc 2 1, 3) := by decide +kernel
theorem dX6_weigh_23 : decode cX6_weigh 23 = .ok (.goto (-21), 3) := by decide +kernel
theorem dX6_weigh_26 : decode cX6_weigh 26 = .ok (.bipush 16, 2) := by decide +kernel
theorem dX6_weigh_28 : decode cX6_weigh 28 = .ok (.istore_n 2, 1) := by decide +kernel
theorem dX6_weigh_29 : decode cX6_weigh 29 = .ok (.aload_n 0, 1) := by decide +kernel
theorem dX6_weigh_30 : decode cX6_weigh 30 = .ok (.getfield 12, 3) := by decide +kernel
theorem dX6_weigh_33 : decode cX6_weigh 33 = .ok (.getfield 45, 3) := by decide +kernel
theorem dX6_weigh_36 : decode cX6_weigh 36 = .ok (.getfield 49, 3) := by decide +kernel
theorem dX6_weigh_39 : decode cX6_weigh 39 = .ok (.iconst 1, 1) := by decide +kernel
theorem dX6_weigh_40 : decode cX6_weigh 40 = .ok (.isub, 1) := by decide +kernel
theorem dX6_weigh_41 : decode cX6_weigh 41 = .ok (.istore_n 3, 1) := by decide +kernel
theorem dX6_weigh_42 : decode cX6_weigh 42 = .ok (.iload_n 3, 1) := by decide +kernel
theorem dX6_weigh_43 : decode cX6_weigh 43 = .ok (.ifCond .lt 42, 3) := by decide +kernel
theorem dX6_weigh_46 : decode cX6_weigh 46 = .ok (.iload_n 2, 1) := by decide +kernel
theorem dX6_weigh_47 : decode cX6_weigh 47 = .ok (.ifCond .le 38, 3) := by decide +kernel
theorem dX6_weigh_50 : decode cX6_weigh 50 = .ok (.aload_n 0, 1) := by decide +kernel
theorem dX6_weigh_51 : decode cX6_weigh 51 = .ok (.getfield 12, 3) := by decide +kernel
theorem dX6_weigh_54 : decode cX6_weigh 54 = .ok (.getfield 45, 3) := by decide +kernel
theorem dX6_weigh_57 : decode cX6_weigh 57 = .ok (.getfield 54, 3) := by decide +kernel
theorem dX6_weigh_60 : decode cX6_weigh 60 = .ok (.iload_n 3, 1) := by decide +kernel
theorem dX6_weigh_61 : decode cX6_weigh 61 = .ok (.iaload, 1) := by decide +kernel
theorem dX6_weigh_62 : decode cX6_weigh 62 = .ok (.iload_n 1, 1) := by decide +kernel
theorem dX6_weigh_63 : decode cX6_weigh 63 = .ok (.if_icmp .ne 16, 3) := by decide +kernel
theorem dX6_weigh_66 : decode cX6_weigh 66 = .ok (.aload_n 0, 1) := by decide +kernel
theorem dX6_weigh_67 : decode cX6_weigh 67 = .ok (.aload_n 0, 1) := by decide +kernel
theorem dX6_weigh_68 : decode cX6_weigh 68 = .ok (.iload_n 1, 1) := by decide +kernel
theorem dX6_weigh_69 : decode cX6_weigh 69 = .ok (.iload_n 3, 1) := by decide +kernel
theorem dX6_weigh_70 : decode cX6_weigh 70 = .ok (.invokevirtual 57, 3) := by decide +kernel
theorem dX6_weigh_73 : decode cX6_weigh 73 = .ok (.invokevirtual 61, 3) := by decide +kernel
theorem dX6_weigh_76 : decode cX6_weigh 76 = .ok (.iinc 2 (-1), 3) := by decide +kernel
theorem dX6_weigh_79 : decode cX6_weigh 79 = .ok (.iinc 3 (-1), 3) := by decide +kernel
theorem dX6_weigh_82 : decode cX6_weigh 82 = .ok (.goto (-40), 3) := by decide +kernel
theorem dX6_weigh_85 : decode cX6_weigh 85 = .ok (.return_, 1) := by decide +kernel
theorem dX6_agreeing_0 : decode cX6_agreeing 0 = .ok (.aload_n 0, 1) := by decide +kernel
theorem dX6_agreeing_1 : decode cX6_agreeing 1 = .ok (.getfield 12, 3) := by decide +kernel
theorem dX6_agreeing_4 : decode cX6_agreeing 4 = .ok (.getfield 45, 3) := by decide +kernel
theorem dX6_agreeing_7 : decode cX6_agreeing 7 = .ok (.astore_n 3, 1) := by decide +kernel
theorem dX6_agreeing_8 : decode cX6_agreeing 8 = .ok (.aload_n 3, 1) := by decide +kernel
theorem dX6_agreeing_9 : decode cX6_agreeing 9 = .ok (.iload_n 2, 1) := by decide +kernel
theorem dX6_agreeing_10 : decode cX6_agreeing 10 = .ok (.invokevirtual 65, 3) := by decide +kernel
theorem dX6_agreeing_13 : decode cX6_agreeing 13 = .ok (.ifCond .eq 17, 3) := by decide +kernel
theorem dX6_agreeing_16 : decode cX6_agreeing 16 = .ok (.aload_n 0, 1) := by decide +kernel
theorem dX6_agreeing_17 : decode cX6_agreeing 17 = .ok (.getfield 12, 3) := by decide +kernel
theorem dX6_agreeing_20 : decode cX6_agreeing 20 = .ok (.aload_n 3, 1) := by decide +kernel
theorem dX6_agreeing_21 : decode cX6_agreeing 21 = .ok (.getfield 69, 3) := by decide +kernel
theorem dX6_agreeing_24 : decode cX6_agreeing 24 = .ok (.iload_n 2, 1) := by decide +kernel
theorem dX6_agreeing_25 : decode cX6_agreeing 25 = .ok (.iaload, 1) := by decide +kernel
theorem dX6_agreeing_26 : decode cX6_agreeing 26 = .ok (.invokevirtual 72, 3) := by decide +kernel
theorem dX6_agreeing_29 : decode cX6_agreeing 29 = .ok (.ireturn, 1) := by decide +kernel
theorem dX6_agreeing_30 : decode cX6_agreeing 30 = .ok (.aload_n 0, 1) := by decide +kernel
theorem dX6_agreeing_31 : decode cX6_agreeing 31 = .ok (.getfield 12, 3) := by decide +kernel
theorem dX6_agreeing_34 : decode cX6_agreeing 34 = .ok (.iload_n 1, 1) := by decide +kernel
theorem dX6_agreeing_35 : decode cX6_agreeing 35 = .ok (.aload_n 3, 1) := by decide +kernel
theorem dX6_agreeing_36 : decode cX6_agreeing 36 = .ok (.getfield 76, 3) := by decide +kernel
theorem dX6_agreeing_39 : decode cX6_agreeing 39 = .ok (.iload_n 2, 1) := by decide +kernel
theorem dX6_agreeing_40 : decode cX6_agreeing 40 = .ok (.iaload, 1) := by decide +kernel
theorem dX6_agreeing_41 : decode cX6_agreeing 41 = .ok (.invokevirtual 79, 3) := by decide +kernel
theorem dX6_agreeing_44 : decode cX6_agreeing 44 = .ok (.aload_n 0, 1) := by decide +kernel
theorem dX6_agreeing_45 : decode cX6_agreeing 45 = .ok (.getfield 12, 3) := by decide +kernel
theorem dX6_agreeing_48 : decode cX6_agreeing 48 = .ok (.aload_n 3, 1) := by decide +kernel
theorem dX6_agreeing_49 : decode cX6_agreeing 49 = .ok (.getfield 82, 3) := by decide +kernel
theorem dX6_agreeing_52 : decode cX6_agreeing 52 = .ok (.iload_n 2, 1) := by decide +kernel
theorem dX6_agreeing_53 : decode cX6_agreeing 53 = .ok (.iaload, 1) := by decide +kernel
theorem dX6_agreeing_54 : decode cX6_agreeing 54 = .ok (.invokevirtual 85, 3) := by decide +kernel
theorem dX6_agreeing_57 : decode cX6_agreeing 57 = .ok (.iand, 1) := by decide +kernel
theorem dX6_agreeing_58 : decode cX6_agreeing 58 = .ok (.istore 4, 2) := by decide +kernel
theorem dX6_agreeing_60 : decode cX6_agreeing 60 = .ok (.aload_n 3, 1) := by decide +kernel
theorem dX6_agreeing_61 : decode cX6_agreeing 61 = .ok (.getfield 69, 3) := by decide +kernel
theorem dX6_agreeing_64 : decode cX6_agreeing 64 = .ok (.iload_n 2, 1) := by decide +kernel
theorem dX6_agreeing_65 : decode cX6_agreeing 65 = .ok (.iaload, 1) := by decide +kernel
theorem dX6_agreeing_66 : decode cX6_agreeing 66 = .ok (.iconst 1, 1) := by decide +kernel
theorem dX6_agreeing_67 : decode cX6_agreeing 67 = .ok (.if_icmp .ne 8, 3) := by decide +kernel
theorem dX6_agreeing_70 : decode cX6_agreeing 70 = .ok (.iload 4, 2) := by decide +kernel
theorem dX6_agreeing_72 : decode cX6_agreeing 72 = .ok (.goto 7, 3) := by decide +kernel
theorem dX6_agreeing_75 : decode cX6_agreeing 75 = .ok (.iload 4, 2) := by decide +kernel
theorem dX6_agreeing_77 : decode cX6_agreeing 77 = .ok (.iconst (-1), 1) := by decide +kernel
theorem dX6_agreeing_78 : decode cX6_agreeing 78 = .ok (.ixor, 1) := by decide +kernel
theorem dX6_agreeing_79 : decode cX6_agreeing 79 = .ok (.ireturn, 1) := by decide +kernel
theorem dX6_multiply_0 : decode cX6_multiply 0 = .ok (.iconst 0, 1) := by decide +kernel
theorem dX6_multiply_1 : decode cX6_multiply 1 = .ok (.istore_n 2, 1) := by decide +kernel
theorem dX6_multiply_2 : decode cX6_multiply 2 = .ok (.iload_n 2, 1) := by decide +kernel
theorem dX6_multiply_3 : decode cX6_multiply 3 = .ok (.aload_n 0, 1) := by decide +kernel
theorem dX6_multiply_4 : decode cX6_multiply 4 = .ok (.getfield 12, 3) := by decide +kernel
theorem dX6_multiply_7 : decode cX6_multiply 7 = .ok (.getfield 42, 3) := by decide +kernel
theorem dX6_multiply_10 : decode cX6_multiply 10 = .ok (.if_icmp .ge 40, 3) := by decide +kernel
theorem dX6_multiply_13 : decode cX6_multiply 13 = .ok (.aload_n 0, 1) := by decide +kernel
theorem dX6_multiply_14 : decode cX6_multiply 14 = .ok (.getfield 18, 3) := by decide +kernel
theorem dX6_multiply_17 : decode cX6_multiply 17 = .ok (.iload_n 2, 1) := by decide +kernel
theorem dX6_multiply_18 : decode cX6_multiply 18 = .ok (.dup2, 1) := by decide +kernel
theorem dX6_multiply_19 : decode cX6_multiply 19 = .ok (.laload, 1) := by decide +kernel
theorem dX6_multiply_20 : decode cX6_multiply 20 = .ok (.aload_n 0, 1) := by decide +kernel
theorem dX6_multiply_21 : decode cX6_multiply 21 = .ok (.getfield 12, 3) := by decide +kernel
theorem dX6_multiply_24 : decode cX6_multiply 24 = .ok (.getfield 88, 3) := by decide +kernel
theorem dX6_multiply_27 : decode cX6_multiply 27 = .ok (.iload_n 1, 1) := by decide +kernel
theorem dX6_multiply_28 : decode cX6_multiply 28 = .ok (.iload_n 2, 1) := by decide +kernel
theorem dX6_multiply_29 : decode cX6_multiply 29 = .ok (.invokestatic 91, 3) := by decide +kernel
theorem dX6_multiply_32 : decode cX6_multiply 32 = .ok (.ifCond .eq 7, 3) := by decide +kernel
theorem dX6_multiply_35 : decode cX6_multiply 35 = .ok (.iconst 2, 1) := by decide +kernel
theorem dX6_multiply_36 : decode cX6_multiply 36 = .ok (.goto 4, 3) := by decide +kernel
theorem dX6_multiply_39 : decode cX6_multiply 39 = .ok (.iconst 3, 1) := by decide +kernel
theorem dX6_multiply_40 : decode cX6_multiply 40 = .ok (.iaload, 1) := by decide +kernel
theorem dX6_multiply_41 : decode cX6_multiply 41 = .ok (.i2l, 1) := by decide +kernel
theorem dX6_multiply_42 : decode cX6_multiply 42 = .ok (.lmul, 1) := by decide +kernel
theorem dX6_multiply_43 : decode cX6_multiply 43 = .ok (.lastore, 1) := by decide +kernel
theorem dX6_multiply_44 : decode cX6_multiply 44 = .ok (.iinc 2 1, 3) := by decide +kernel
theorem dX6_multiply_47 : decode cX6_multiply 47 = .ok (.goto (-45), 3) := by decide +kernel
theorem dX6_multiply_50 : decode cX6_multiply 50 = .ok (.return_, 1) := by decide +kernel
theorem dX6_surest_0 : decode cX6_surest 0 = .ok (.iconst (-1), 1) := by decide +kernel
theorem dX6_surest_1 : decode cX6_surest 1 = .ok (.istore_n 2, 1) := by decide +kernel
theorem dX6_surest_2 : decode cX6_surest 2 = .ok (.lconst 0, 1) := by decide +kernel
theorem dX6_surest_3 : decode cX6_surest 3 = .ok (.lstore_n 3, 1) := by decide +kernel
theorem dX6_surest_4 : decode cX6_surest 4 = .ok (.lconst 0, 1) := by decide +kernel
theorem dX6_surest_5 : decode cX6_surest 5 = .ok (.lstore 5, 2) := by decide +kernel
theorem dX6_surest_7 : decode cX6_surest 7 = .ok (.iconst 0, 1) := by decide +kernel
theorem dX6_surest_8 : decode cX6_surest 8 = .ok (.istore 7, 2) := by decide +kernel
theorem dX6_surest_10 : decode cX6_surest 10 = .ok (.iload 7, 2) := by decide +kernel
theorem dX6_surest_12 : decode cX6_surest 12 = .ok (.aload_n 0, 1) := by decide +kernel
theorem dX6_surest_13 : decode cX6_surest 13 = .ok (.getfield 12, 3) := by decide +kernel
theorem dX6_surest_16 : decode cX6_surest 16 = .ok (.getfield 42, 3) := by decide +kernel
theorem dX6_surest_19 : decode cX6_surest 19 = .ok (.if_icmp .ge 61, 3) := by decide +kernel
theorem dX6_surest_22 : decode cX6_surest 22 = .ok (.lload 5, 2) := by decide +kernel
theorem dX6_surest_24 : decode cX6_surest 24 = .ok (.aload_n 0, 1) := by decide +kernel
theorem dX6_surest_25 : decode cX6_surest 25 = .ok (.getfield 18, 3) := by decide +kernel
theorem dX6_surest_28 : decode cX6_surest 28 = .ok (.iload 7, 2) := by decide +kernel
theorem dX6_surest_30 : decode cX6_surest 30 = .ok (.laload, 1) := by decide +kernel
theorem dX6_surest_31 : decode cX6_surest 31 = .ok (.ladd, 1) := by decide +kernel
theorem dX6_surest_32 : decode cX6_surest 32 = .ok (.lstore 5, 2) := by decide +kernel
theorem dX6_surest_34 : decode cX6_surest 34 = .ok (.aload_n 0, 1) := by decide +kernel
theorem dX6_surest_35 : decode cX6_surest 35 = .ok (.getfield 18, 3) := by decide +kernel
theorem dX6_surest_38 : decode cX6_surest 38 = .ok (.iload 7, 2) := by decide +kernel
theorem dX6_surest_40 : decode cX6_surest 40 = .ok (.laload, 1) := by decide +kernel
theorem dX6_surest_41 : decode cX6_surest 41 = .ok (.lload_n 3, 1) := by decide +kernel
theorem dX6_surest_42 : decode cX6_surest 42 = .ok (.lcmp, 1) := by decide +kernel
theorem dX6_surest_43 : decode cX6_surest 43 = .ok (.ifCond .le 17, 3) := by decide +kernel
theorem dX6_surest_46 : decode cX6_surest 46 = .ok (.iload 7, 2) := by decide +kernel
theorem dX6_surest_48 : decode cX6_surest 48 = .ok (.istore_n 2, 1) := by decide +kernel
theorem dX6_surest_49 : decode cX6_surest 49 = .ok (.aload_n 0, 1) := by decide +kernel
theorem dX6_surest_50 : decode cX6_surest 50 = .ok (.getfield 18, 3) := by decide +kernel
theorem dX6_surest_53 : decode cX6_surest 53 = .ok (.iload 7, 2) := by decide +kernel
theorem dX6_surest_55 : decode cX6_surest 55 = .ok (.laload, 1) := by decide +kernel
theorem dX6_surest_56 : decode cX6_surest 56 = .ok (.lstore_n 3, 1) := by decide +kernel
theorem dX6_surest_57 : decode cX6_surest 57 = .ok (.goto 17, 3) := by decide +kernel
theorem dX6_surest_60 : decode cX6_surest 60 = .ok (.aload_n 0, 1) := by decide +kernel
theorem dX6_surest_61 : decode cX6_surest 61 = .ok (.getfield 18, 3) := by decide +kernel
theorem dX6_surest_64 : decode cX6_surest 64 = .ok (.iload 7, 2) := by decide +kernel
theorem dX6_surest_66 : decode cX6_surest 66 = .ok (.laload, 1) := by decide +kernel
theorem dX6_surest_67 : decode cX6_surest 67 = .ok (.lload_n 3, 1) := by decide +kernel
theorem dX6_surest_68 : decode cX6_surest 68 = .ok (.lcmp, 1) := by decide +kernel
theorem dX6_surest_69 : decode cX6_surest 69 = .ok (.ifCond .ne 5, 3) := by decide +kernel
theorem dX6_surest_72 : decode cX6_surest 72 = .ok (.iconst (-1), 1) := by decide +kernel
theorem dX6_surest_73 : decode cX6_surest 73 = .ok (.istore_n 2, 1) := by decide +kernel
theorem dX6_surest_74 : decode cX6_surest 74 = .ok (.iinc 7 1, 3) := by decide +kernel
theorem dX6_surest_77 : decode cX6_surest 77 = .ok (.goto (-67), 3) := by decide +kernel
theorem dX6_surest_80 : decode cX6_surest 80 = .ok (.ldc2_w 95, 3) := by decide +kernel
theorem dX6_surest_83 : decode cX6_surest 83 = .ok (.lload_n 3, 1) := by decide +kernel
theorem dX6_surest_84 : decode cX6_surest 84 = .ok (.lmul, 1) := by decide +kernel
theorem dX6_surest_85 : decode cX6_surest 85 = .ok (.iload_n 1, 1) := by decide +kernel
theorem dX6_surest_86 : decode cX6_surest 86 = .ok (.i2l, 1) := by decide +kernel
theorem dX6_surest_87 : decode cX6_surest 87 = .ok (.lload 5, 2) := by decide +kernel
theorem dX6_surest_89 : decode cX6_surest 89 = .ok (.lmul, 1) := by decide +kernel
theorem dX6_surest_90 : decode cX6_surest 90 = .ok (.lcmp, 1) := by decide +kernel
theorem dX6_surest_91 : decode cX6_surest 91 = .ok (.ifCond .lt 7, 3) := by decide +kernel
theorem dX6_surest_94 : decode cX6_surest 94 = .ok (.iload_n 2, 1) := by decide +kernel
theorem dX6_surest_95 : decode cX6_surest 95 = .ok (.goto 4, 3) := by decide +kernel
theorem dX6_surest_98 : decode cX6_surest 98 = .ok (.iconst (-1), 1) := by decide +kernel
theorem dX6_surest_99 : decode cX6_surest 99 = .ok (.ireturn, 1) := by decide +kernel
theorem dX6_countRid_0 : decode cX6_countRid 0 = .ok (.aload_n 0, 1) := by decide +kernel
theorem dX6_countRid_1 : decode cX6_countRid 1 = .ok (.getfield 12, 3) := by decide +kernel
theorem dX6_countRid_4 : decode cX6_countRid 4 = .ok (.iload_n 2, 1) := by decide +kernel
theorem dX6_countRid_5 : decode cX6_countRid 5 = .ok (.iload_n 3, 1) := by decide +kernel
theorem dX6_countRid_6 : decode cX6_countRid 6 = .ok (.invokevirtual 97, 3) := by decide +kernel
theorem dX6_countRid_9 : decode cX6_countRid 9 = .ok (.istore 4, 2) := by decide +kernel
theorem dX6_countRid_11 : decode cX6_countRid 11 = .ok (.iconst 0, 1) := by decide +kernel
theorem dX6_countRid_12 : decode cX6_countRid 12 = .ok (.istore 5, 2) := by decide +kernel
theorem dX6_countRid_14 : decode cX6_countRid 14 = .ok (.iconst 0, 1) := by decide +kernel
theorem dX6_countRid_15 : decode cX6_countRid 15 = .ok (.istore 6, 2) := by decide +kernel
theorem dX6_countRid_17 : decode cX6_countRid 17 = .ok (.iload 6, 2) := by decide +kernel
theorem dX6_countRid_19 : decode cX6_countRid 19 = .ok (.aload_n 0, 1) := by decide +kernel
theorem dX6_countRid_20 : decode cX6_countRid 20 = .ok (.getfield 12, 3) := by decide +kernel
theorem dX6_countRid_23 : decode cX6_countRid 23 = .ok (.getfield 100, 3) := by decide +kernel
theorem dX6_countRid_26 : decode cX6_countRid 26 = .ok (.if_icmp .ge 27, 3) := by decide +kernel
theorem dX6_countRid_29 : decode cX6_countRid 29 = .ok (.aload_n 0, 1) := by decide +kernel
theorem dX6_countRid_30 : decode cX6_countRid 30 = .ok (.iload 6, 2) := by decide +kernel
theorem dX6_countRid_32 : decode cX6_countRid 32 = .ok (.iload 4, 2) := by decide +kernel
theorem dX6_countRid_34 : decode cX6_countRid 34 = .ok (.invokevirtual 103, 3) := by decide +kernel
theorem dX6_countRid_37 : decode cX6_countRid 37 = .ok (.iload_n 1, 1) := by decide +kernel
theorem dX6_countRid_38 : decode cX6_countRid 38 = .ok (.iconst (-1), 1) := by decide +kernel
theorem dX6_countRid_39 : decode cX6_countRid 39 = .ok (.ixor, 1) := by decide +kernel
theorem dX6_countRid_40 : decode cX6_countRid 40 = .ok (.iand, 1) := by decide +kernel
theorem dX6_countRid_41 : decode cX6_countRid 41 = .ok (.ifCond .ne 6, 3) := by decide +kernel
theorem dX6_countRid_44 : decode cX6_countRid 44 = .ok (.iinc 5 1, 3) := by decide +kernel
theorem dX6_countRid_47 : decode cX6_countRid 47 = .ok (.iinc 6 1, 3) := by decide +kernel
theorem dX6_countRid_50 : decode cX6_countRid 50 = .ok (.goto (-33), 3) := by decide +kernel
theorem dX6_countRid_53 : decode cX6_countRid 53 = .ok (.iload 5, 2) := by decide +kernel
theorem dX6_countRid_55 : decode cX6_countRid 55 = .ok (.ireturn, 1) := by decide +kernel
theorem dX6_heardOf_0 : decode cX6_heardOf 0 = .ok (.aload_n 0, 1) := by decide +kernel
theorem dX6_heardOf_1 : decode cX6_heardOf 1 = .ok (.getfield 12, 3) := by decide +kernel
theorem dX6_heardOf_4 : decode cX6_heardOf 4 = .ok (.iload_n 1, 1) := by decide +kernel
theorem dX6_heardOf_5 : decode cX6_heardOf 5 = .ok (.aload_n 0, 1) := by decide +kernel
theorem dX6_heardOf_6 : decode cX6_heardOf 6 = .ok (.getfield 12, 3) := by decide +kernel
theorem dX6_heardOf_9 : decode cX6_heardOf 9 = .ok (.getfield 106, 3) := by decide +kernel
theorem dX6_heardOf_12 : decode cX6_heardOf 12 = .ok (.iload_n 1, 1) := by decide +kernel
theorem dX6_heardOf_13 : decode cX6_heardOf 13 = .ok (.aaload, 1) := by decide +kernel
theorem dX6_heardOf_14 : decode cX6_heardOf 14 = .ok (.getfield 110, 3) := by decide +kernel
theorem dX6_heardOf_17 : decode cX6_heardOf 17 = .ok (.invokevirtual 79, 3) := by decide +kernel
theorem dX6_heardOf_20 : decode cX6_heardOf 20 = .ok (.iload_n 2, 1) := by decide +kernel
theorem dX6_heardOf_21 : decode cX6_heardOf 21 = .ok (.iand, 1) := by decide +kernel
theorem dX6_heardOf_22 : decode cX6_heardOf 22 = .ok (.ireturn, 1) := by decide +kernel
theorem dX6_bestSet_0 : decode cX6_bestSet 0 = .ok (.aload_n 0, 1) := by decide +kernel
theorem dX6_bestSet_1 : decode cX6_bestSet 1 = .ok (.getfield 12, 3) := by decide +kernel
theorem dX6_bestSet_4 : decode cX6_bestSet 4 = .ok (.iload_n 2, 1) := by decide +kernel
theorem dX6_bestSet_5 : decode cX6_bestSet 5 = .ok (.iload_n 3, 1) := by decide +kernel
theorem dX6_bestSet_6 : decode cX6_bestSet 6 = .ok (.invokevirtual 97, 3) := by decide +kernel
theorem dX6_bestSet_9 : decode cX6_bestSet 9 = .ok (.istore 4, 2) := by decide +kernel
theorem dX6_bestSet_11 : decode cX6_bestSet 11 = .ok (.aload_n 0, 1) := by decide +kernel
theorem dX6_bestSet_12 : decode cX6_bestSet 12 = .ok (.getfield 12, 3) := by decide +kernel
theorem dX6_bestSet_15 : decode cX6_bestSet 15 = .ok (.invokevirtual 114, 3) := by decide +kernel
theorem dX6_bestSet_18 : decode cX6_bestSet 18 = .ok (.istore 5, 2) := by decide +kernel
theorem dX6_bestSet_20 : decode cX6_bestSet 20 = .ok (.aload_n 0, 1) := by decide +kernel
theorem dX6_bestSet_21 : decode cX6_bestSet 21 = .ok (.iload_n 1, 1) := by decide +kernel
theorem dX6_bestSet_22 : decode cX6_bestSet 22 = .ok (.putfield 30, 3) := by decide +kernel
theorem dX6_bestSet_25 : decode cX6_bestSet 25 = .ok (.aload_n 0, 1) := by decide +kernel
theorem dX6_bestSet_26 : decode cX6_bestSet 26 = .ok (.iconst 0, 1) := by decide +kernel
theorem dX6_bestSet_27 : decode cX6_bestSet 27 = .ok (.putfield 33, 3) := by decide +kernel
theorem dX6_bestSet_30 : decode cX6_bestSet 30 = .ok (.aload_n 0, 1) := by decide +kernel
theorem dX6_bestSet_31 : decode cX6_bestSet 31 = .ok (.iconst 0, 1) := by decide +kernel
theorem dX6_bestSet_32 : decode cX6_bestSet 32 = .ok (.putfield 36, 3) := by decide +kernel
theorem dX6_bestSet_35 : decode cX6_bestSet 35 = .ok (.aload_n 0, 1) := by decide +kernel
theorem dX6_bestSet_36 : decode cX6_bestSet 36 = .ok (.iconst 0, 1) := by decide +kernel
theorem dX6_bestSet_37 : decode cX6_bestSet 37 = .ok (.putfield 39, 3) := by decide +kernel
theorem dX6_bestSet_40 : decode cX6_bestSet 40 = .ok (.aload_n 0, 1) := by decide +kernel
theorem dX6_bestSet_41 : decode cX6_bestSet 41 = .ok (.iconst 0, 1) := by decide +kernel
theorem dX6_bestSet_42 : decode cX6_bestSet 42 = .ok (.putfield 26, 3) := by decide +kernel
theorem dX6_bestSet_45 : decode cX6_bestSet 45 = .ok (.iconst 0, 1) := by decide +kernel
theorem dX6_bestSet_46 : decode cX6_bestSet 46 = .ok (.istore 6, 2) := by decide +kernel
theorem dX6_bestSet_48 : decode cX6_bestSet 48 = .ok (.iload 6, 2) := by decide +kernel
theorem dX6_bestSet_50 : decode cX6_bestSet 50 = .ok (.aload_n 0, 1) := by decide +kernel
theorem dX6_bestSet_51 : decode cX6_bestSet 51 = .ok (.getfield 12, 3) := by decide +kernel
theorem dX6_bestSet_54 : decode cX6_bestSet 54 = .ok (.getfield 100, 3) := by decide +kernel
theorem dX6_bestSet_57 : decode cX6_bestSet 57 = .ok (.if_icmp .ge 50, 3) := by decide +kernel
theorem dX6_bestSet_60 : decode cX6_bestSet 60 = .ok (.aload_n 0, 1) := by decide +kernel
theorem dX6_bestSet_61 : decode cX6_bestSet 61 = .ok (.iload 6, 2) := by decide +kernel
theorem dX6_bestSet_63 : decode cX6_bestSet 63 = .ok (.iload 4, 2) := by decide +kernel
theorem dX6_bestSet_65 : decode cX6_bestSet 65 = .ok (.invokevirtual 103, 3) := by decide +kernel
theorem dX6_bestSet_68 : decode cX6_bestSet 68 = .ok (.istore 7, 2) := by decide +kernel
theorem dX6_bestSet_70 : decode cX6_bestSet 70 = .ok (.iload 7, 2) := by decide +kernel
theorem dX6_bestSet_72 : decode cX6_bestSet 72 = .ok (.iload 5, 2) := by decide +kernel
theorem dX6_bestSet_74 : decode cX6_bestSet 74 = .ok (.iconst (-1), 1) := by decide +kernel
theorem dX6_bestSet_75 : decode cX6_bestSet 75 = .ok (.ixor, 1) := by decide +kernel
theorem dX6_bestSet_76 : decode cX6_bestSet 76 = .ok (.iand, 1) := by decide +kernel
theorem dX6_bestSet_77 : decode cX6_bestSet 77 = .ok (.ifCond .ne 24, 3) := by decide +kernel
theorem dX6_bestSet_80 : decode cX6_bestSet 80 = .ok (.aload_n 0, 1) := by decide +kernel
theorem dX6_bestSet_81 : decode cX6_bestSet 81 = .ok (.getfield 22, 3) := by decide +kernel
theorem dX6_bestSet_84 : decode cX6_bestSet 84 = .ok (.aload_n 0, 1) := by decide +kernel
theorem dX6_bestSet_85 : decode cX6_bestSet 85 = .ok (.getfield 26, 3) := by decide +kernel
theorem dX6_bestSet_88 : decode cX6_bestSet 88 = .ok (.iload 7, 2) := by decide +kernel
theorem dX6_bestSet_90 : decode cX6_bestSet 90 = .ok (.iastore, 1) := by decide +kernel
theorem dX6_bestSet_91 : decode cX6_bestSet 91 = .ok (.aload_n 0, 1) := by decide +kernel
theorem dX6_bestSet_92 : decode cX6_bestSet 92 = .ok (.dup, 1) := by decide +kernel
theorem dX6_bestSet_93 : decode cX6_bestSet 93 = .ok (.getfield 26, 3) := by decide +kernel
theorem dX6_bestSet_96 : decode cX6_bestSet 96 = .ok (.iconst 1, 1) := by decide +kernel
theorem dX6_bestSet_97 : decode cX6_bestSet 97 = .ok (.iadd, 1) := by decide +kernel
theorem dX6_bestSet_98 : decode cX6_bestSet 98 = .ok (.putfield 26, 3) := by decide +kernel
theorem dX6_bestSet_101 : decode cX6_bestSet 101 = .ok (.iinc 6 1, 3) := by decide +kernel
theorem dX6_bestSet_104 : decode cX6_bestSet 104 = .ok (.goto (-56), 3) := by decide +kernel
theorem dX6_bestSet_107 : decode cX6_bestSet 107 = .ok (.aload_n 0, 1) := by decide +kernel
theorem dX6_bestSet_108 : decode cX6_bestSet 108 = .ok (.iconst 0, 1) := by decide +kernel
theorem dX6_bestSet_109 : decode cX6_bestSet 109 = .ok (.iconst 0, 1) := by decide +kernel
theorem dX6_bestSet_110 : decode cX6_bestSet 110 = .ok (.iconst 0, 1) := by decide +kernel
theorem dX6_bestSet_111 : decode cX6_bestSet 111 = .ok (.iconst 0, 1) := by decide +kernel
theorem dX6_bestSet_112 : decode cX6_bestSet 112 = .ok (.invokevirtual 118, 3) := by decide +kernel
theorem dX6_bestSet_115 : decode cX6_bestSet 115 = .ok (.aload_n 0, 1) := by decide +kernel
theorem dX6_bestSet_116 : decode cX6_bestSet 116 = .ok (.getfield 33, 3) := by decide +kernel
theorem dX6_bestSet_119 : decode cX6_bestSet 119 = .ok (.ireturn, 1) := by decide +kernel
theorem dX6_choose_0 : decode cX6_choose 0 = .ok (.iload_n 3, 1) := by decide +kernel
theorem dX6_choose_1 : decode cX6_choose 1 = .ok (.aload_n 0, 1) := by decide +kernel
theorem dX6_choose_2 : decode cX6_choose 2 = .ok (.getfield 30, 3) := by decide +kernel
theorem dX6_choose_5 : decode cX6_choose 5 = .ok (.if_icmp .gt 19, 3) := by decide +kernel
theorem dX6_choose_8 : decode cX6_choose 8 = .ok (.iload 4, 2) := by decide +kernel
theorem dX6_choose_10 : decode cX6_choose 10 = .ok (.aload_n 0, 1) := by decide +kernel
theorem dX6_choose_11 : decode cX6_choose 11 = .ok (.getfield 26, 3) := by decide +kernel
theorem dX6_choose_14 : decode cX6_choose 14 = .ok (.iadd, 1) := by decide +kernel
theorem dX6_choose_15 : decode cX6_choose 15 = .ok (.iload_n 1, 1) := by decide +kernel
theorem dX6_choose_16 : decode cX6_choose 16 = .ok (.isub, 1) := by decide +kernel
theorem dX6_choose_17 : decode cX6_choose 17 = .ok (.aload_n 0, 1) := by decide +kernel
theorem dX6_choose_18 : decode cX6_choose 18 = .ok (.getfield 36, 3) := by decide +kernel
theorem dX6_choose_21 : decode cX6_choose 21 = .ok (.if_icmp .ge 4, 3) := by decide +kernel
theorem dX6_choose_24 : decode cX6_choose 24 = .ok (.return_, 1) := by decide +kernel
theorem dX6_choose_25 : decode cX6_choose 25 = .ok (.iload_n 1, 1) := by decide +kernel
theorem dX6_choose_26 : decode cX6_choose 26 = .ok (.aload_n 0, 1) := by decide +kernel
theorem dX6_choose_27 : decode cX6_choose 27 = .ok (.getfield 26, 3) := by decide +kernel
theorem dX6_choose_30 : decode cX6_choose 30 = .ok (.if_icmp .lt 12, 3) := by decide +kernel
theorem dX6_choose_33 : decode cX6_choose 33 = .ok (.aload_n 0, 1) := by decide +kernel
theorem dX6_choose_34 : decode cX6_choose 34 = .ok (.iload_n 2, 1) := by decide +kernel
theorem dX6_choose_35 : decode cX6_choose 35 = .ok (.iload_n 3, 1) := by decide +kernel
theorem dX6_choose_36 : decode cX6_choose 36 = .ok (.iload 4, 2) := by decide +kernel
theorem dX6_choose_38 : decode cX6_choose 38 = .ok (.invokevirtual 122, 3) := by decide +kernel
theorem dX6_choose_41 : decode cX6_choose 41 = .ok (.return_, 1) := by decide +kernel
theorem dX6_choose_42 : decode cX6_choose 42 = .ok (.aload_n 0, 1) := by decide +kernel
theorem dX6_choose_43 : decode cX6_choose 43 = .ok (.getfield 22, 3) := by decide +kernel
theorem dX6_choose_46 : decode cX6_choose 46 = .ok (.iload_n 1, 1) := by decide +kernel
theorem dX6_choose_47 : decode cX6_choose 47 = .ok (.iaload, 1) := by decide +kernel
theorem dX6_choose_48 : decode cX6_choose 48 = .ok (.iload_n 2, 1) := by decide +kernel
theorem dX6_choose_49 : decode cX6_choose 49 = .ok (.iconst (-1), 1) := by decide +kernel
theorem dX6_choose_50 : decode cX6_choose 50 = .ok (.ixor, 1) := by decide +kernel
theorem dX6_choose_51 : decode cX6_choose 51 = .ok (.iand, 1) := by decide +kernel
theorem dX6_choose_52 : decode cX6_choose 52 = .ok (.istore 5, 2) := by decide +kernel
theorem dX6_choose_54 : decode cX6_choose 54 = .ok (.aload_n 0, 1) := by decide +kernel
theorem dX6_choose_55 : decode cX6_choose 55 = .ok (.iload_n 1, 1) := by decide +kernel
theorem dX6_choose_56 : decode cX6_choose 56 = .ok (.iconst 1, 1) := by decide +kernel
theorem dX6_choose_57 : decode cX6_choose 57 = .ok (.iadd, 1) := by decide +kernel
theorem dX6_choose_58 : decode cX6_choose 58 = .ok (.iload_n 2, 1) := by decide +kernel
theorem dX6_choose_59 : decode cX6_choose 59 = .ok (.iload 5, 2) := by decide +kernel
theorem dX6_choose_61 : decode cX6_choose 61 = .ok (.ior, 1) := by decide +kernel
theorem dX6_choose_62 : decode cX6_choose 62 = .ok (.iload_n 3, 1) := by decide +kernel
theorem dX6_choose_63 : decode cX6_choose 63 = .ok (.aload_n 0, 1) := by decide +kernel
theorem dX6_choose_64 : decode cX6_choose 64 = .ok (.iload 5, 2) := by decide +kernel
theorem dX6_choose_66 : decode cX6_choose 66 = .ok (.invokevirtual 126, 3) := by decide +kernel
theorem dX6_choose_69 : decode cX6_choose 69 = .ok (.iadd, 1) := by decide +kernel
theorem dX6_choose_70 : decode cX6_choose 70 = .ok (.iload 4, 2) := by decide +kernel
theorem dX6_choose_72 : decode cX6_choose 72 = .ok (.iconst 1, 1) := by decide +kernel
theorem dX6_choose_73 : decode cX6_choose 73 = .ok (.iadd, 1) := by decide +kernel
theorem dX6_choose_74 : decode cX6_choose 74 = .ok (.invokevirtual 118, 3) := by decide +kernel
theorem dX6_choose_77 : decode cX6_choose 77 = .ok (.iload 5, 2) := by decide +kernel
theorem dX6_choose_79 : decode cX6_choose 79 = .ok (.ifCond .eq 14, 3) := by decide +kernel
theorem dX6_choose_82 : decode cX6_choose 82 = .ok (.aload_n 0, 1) := by decide +kernel
theorem dX6_choose_83 : decode cX6_choose 83 = .ok (.iload_n 1, 1) := by decide +kernel
theorem dX6_choose_84 : decode cX6_choose 84 = .ok (.iconst 1, 1) := by decide +kernel
theorem dX6_choose_85 : decode cX6_choose 85 = .ok (.iadd, 1) := by decide +kernel
theorem dX6_choose_86 : decode cX6_choose 86 = .ok (.iload_n 2, 1) := by decide +kernel
theorem dX6_choose_87 : decode cX6_choose 87 = .ok (.iload_n 3, 1) := by decide +kernel
theorem dX6_choose_88 : decode cX6_choose 88 = .ok (.iload 4, 2) := by decide +kernel
theorem dX6_choose_90 : decode cX6_choose 90 = .ok (.invokevirtual 118, 3) := by decide +kernel
theorem dX6_choose_93 : decode cX6_choose 93 = .ok (.return_, 1) := by decide +kernel
theorem dX6_keepIfBetter_0 : decode cX6_keepIfBetter 0 = .ok (.iload_n 3, 1) := by decide +kernel
theorem dX6_keepIfBetter_1 : decode cX6_keepIfBetter 1 = .ok (.aload_n 0, 1) := by decide +kernel
theorem dX6_keepIfBetter_2 : decode cX6_keepIfBetter 2 = .ok (.getfield 36, 3) := by decide +kernel
theorem dX6_keepIfBetter_5 : decode cX6_keepIfBetter 5 = .ok (.if_icmp .le 7, 3) := by decide +kernel
theorem dX6_keepIfBetter_8 : decode cX6_keepIfBetter 8 = .ok (.iconst 1, 1) := by decide +kernel
theorem dX6_keepIfBetter_9 : decode cX6_keepIfBetter 9 = .ok (.goto 4, 3) := by decide +kernel
theorem dX6_keepIfBetter_12 : decode cX6_keepIfBetter 12 = .ok (.iconst 0, 1) := by decide +kernel
theorem dX6_keepIfBetter_13 : decode cX6_keepIfBetter 13 = .ok (.istore 4, 2) := by decide +kernel
theorem dX6_keepIfBetter_15 : decode cX6_keepIfBetter 15 = .ok (.iload_n 3, 1) := by decide +kernel
theorem dX6_keepIfBetter_16 : decode cX6_keepIfBetter 16 = .ok (.aload_n 0, 1) := by decide +kernel
theorem dX6_keepIfBetter_17 : decode cX6_keepIfBetter 17 = .ok (.getfield 36, 3) := by decide +kernel
theorem dX6_keepIfBetter_20 : decode cX6_keepIfBetter 20 = .ok (.if_icmp .ne 34, 3) := by decide +kernel
theorem dX6_keepIfBetter_23 : decode cX6_keepIfBetter 23 = .ok (.iload_n 2, 1) := by decide +kernel
theorem dX6_keepIfBetter_24 : decode cX6_keepIfBetter 24 = .ok (.aload_n 0, 1) := by decide +kernel
theorem dX6_keepIfBetter_25 : decode cX6_keepIfBetter 25 = .ok (.getfield 39, 3) := by decide +kernel
theorem dX6_keepIfBetter_28 : decode cX6_keepIfBetter 28 = .ok (.if_icmp .lt 19, 3) := by decide +kernel
theorem dX6_keepIfBetter_31 : decode cX6_keepIfBetter 31 = .ok (.iload_n 2, 1) := by decide +kernel
theorem dX6_keepIfBetter_32 : decode cX6_keepIfBetter 32 = .ok (.aload_n 0, 1) := by decide +kernel
theorem dX6_keepIfBetter_33 : decode cX6_keepIfBetter 33 = .ok (.getfield 39, 3) := by decide +kernel
theorem dX6_keepIfBetter_36 : decode cX6_keepIfBetter 36 = .ok (.if_icmp .ne 15, 3) := by decide +kernel
theorem dX6_keepIfBetter_39 : decode cX6_keepIfBetter 39 = .ok (.iload_n 1, 1) := by decide +kernel
theorem dX6_keepIfBetter_40 : decode cX6_keepIfBetter 40 = .ok (.aload_n 0, 1) := by decide +kernel
theorem dX6_keepIfBetter_41 : decode cX6_keepIfBetter 41 = .ok (.getfield 33, 3) := by decide +kernel
theorem dX6_keepIfBetter_44 : decode cX6_keepIfBetter 44 = .ok (.if_icmp .ge 7, 3) := by decide +kernel
theorem dX6_keepIfBetter_47 : decode cX6_keepIfBetter 47 = .ok (.iconst 1, 1) := by decide +kernel
theorem dX6_keepIfBetter_48 : decode cX6_keepIfBetter 48 = .ok (.goto 4, 3) := by decide +kernel
theorem dX6_keepIfBetter_51 : decode cX6_keepIfBetter 51 = .ok (.iconst 0, 1) := by decide +kernel
theorem dX6_keepIfBetter_52 : decode cX6_keepIfBetter 52 = .ok (.istore 4, 2) := by decide +kernel
theorem dX6_keepIfBetter_54 : decode cX6_keepIfBetter 54 = .ok (.iload 4, 2) := by decide +kernel
theorem dX6_keepIfBetter_56 : decode cX6_keepIfBetter 56 = .ok (.ifCond .eq 18, 3) := by decide +kernel
theorem dX6_keepIfBetter_59 : decode cX6_keepIfBetter 59 = .ok (.aload_n 0, 1) := by decide +kernel
theorem dX6_keepIfBetter_60 : decode cX6_keepIfBetter 60 = .ok (.iload_n 1, 1) := by decide +kernel
theorem dX6_keepIfBetter_61 : decode cX6_keepIfBetter 61 = .ok (.putfield 33, 3) := by decide +kernel
theorem dX6_keepIfBetter_64 : decode cX6_keepIfBetter 64 = .ok (.aload_n 0, 1) := by decide +kernel
theorem dX6_keepIfBetter_65 : decode cX6_keepIfBetter 65 = .ok (.iload_n 2, 1) := by decide +kernel
theorem dX6_keepIfBetter_66 : decode cX6_keepIfBetter 66 = .ok (.putfield 39, 3) := by decide +kernel
theorem dX6_keepIfBetter_69 : decode cX6_keepIfBetter 69 = .ok (.aload_n 0, 1) := by decide +kernel
theorem dX6_keepIfBetter_70 : decode cX6_keepIfBetter 70 = .ok (.iload_n 3, 1) := by decide +kernel
theorem dX6_keepIfBetter_71 : decode cX6_keepIfBetter 71 = .ok (.putfield 36, 3) := by decide +kernel
theorem dX6_keepIfBetter_74 : decode cX6_keepIfBetter 74 = .ok (.return_, 1) := by decide +kernel
theorem dX6_priceOf_0 : decode cX6_priceOf 0 = .ok (.iconst 0, 1) := by decide +kernel
theorem dX6_priceOf_1 : decode cX6_priceOf 1 = .ok (.istore_n 2, 1) := by decide +kernel
theorem dX6_priceOf_2 : decode cX6_priceOf 2 = .ok (.iconst 0, 1) := by decide +kernel
theorem dX6_priceOf_3 : decode cX6_priceOf 3 = .ok (.istore_n 3, 1) := by decide +kernel
theorem dX6_priceOf_4 : decode cX6_priceOf 4 = .ok (.iload_n 3, 1) := by decide +kernel
theorem dX6_priceOf_5 : decode cX6_priceOf 5 = .ok (.aload_n 0, 1) := by decide +kernel
theorem dX6_priceOf_6 : decode cX6_priceOf 6 = .ok (.getfield 12, 3) := by decide +kernel
theorem dX6_priceOf_9 : decode cX6_priceOf 9 = .ok (.getfield 42, 3) := by decide +kernel
theorem dX6_priceOf_12 : decode cX6_priceOf 12 = .ok (.if_icmp .ge 38, 3) := by decide +kernel
theorem dX6_priceOf_15 : decode cX6_priceOf 15 = .ok (.iload_n 1, 1) := by decide +kernel
theorem dX6_priceOf_16 : decode cX6_priceOf 16 = .ok (.iload_n 3, 1) := by decide +kernel
theorem dX6_priceOf_17 : decode cX6_priceOf 17 = .ok (.ishr, 1) := by decide +kernel
theorem dX6_priceOf_18 : decode cX6_priceOf 18 = .ok (.ifCond .eq 32, 3) := by decide +kernel
theorem dX6_priceOf_21 : decode cX6_priceOf 21 = .ok (.iload_n 1, 1) := by decide +kernel
theorem dX6_priceOf_22 : decode cX6_priceOf 22 = .ok (.iload_n 3, 1) := by decide +kernel
theorem dX6_priceOf_23 : decode cX6_priceOf 23 = .ok (.invokestatic 91, 3) := by decide +kernel
theorem dX6_priceOf_26 : decode cX6_priceOf 26 = .ok (.ifCond .eq 18, 3) := by decide +kernel
theorem dX6_priceOf_29 : decode cX6_priceOf 29 = .ok (.iload_n 2, 1) := by decide +kernel
theorem dX6_priceOf_30 : decode cX6_priceOf 30 = .ok (.aload_n 0, 1) := by decide +kernel
theorem dX6_priceOf_31 : decode cX6_priceOf 31 = .ok (.getfield 12, 3) := by decide +kernel
theorem dX6_priceOf_34 : decode cX6_priceOf 34 = .ok (.getfield 129, 3) := by decide +kernel
theorem dX6_priceOf_37 : decode cX6_priceOf 37 = .ok (.iload_n 3, 1) := by decide +kernel
theorem dX6_priceOf_38 : decode cX6_priceOf 38 = .ok (.aaload, 1) := by decide +kernel
theorem dX6_priceOf_39 : decode cX6_priceOf 39 = .ok (.getfield 133, 3) := by decide +kernel
theorem dX6_priceOf_42 : decode cX6_priceOf 42 = .ok (.iadd, 1) := by decide +kernel
theorem dX6_priceOf_43 : decode cX6_priceOf 43 = .ok (.istore_n 2, 1) := by decide +kernel
theorem dX6_priceOf_44 : decode cX6_priceOf 44 = .ok (.iinc 3 1, 3) := by decide +kernel
theorem dX6_priceOf_47 : decode cX6_priceOf 47 = .ok (.goto (-43), 3) := by decide +kernel
theorem dX6_priceOf_50 : decode cX6_priceOf 50 = .ok (.iload_n 2, 1) := by decide +kernel
theorem dX6_priceOf_51 : decode cX6_priceOf 51 = .ok (.ireturn, 1) := by decide +kernel
theorem dX6_countMetered_0 : decode cX6_countMetered 0 = .ok (.iconst 0, 1) := by decide +kernel
theorem dX6_countMetered_1 : decode cX6_countMetered 1 = .ok (.istore 4, 2) := by decide +kernel
theorem dX6_countMetered_3 : decode cX6_countMetered 3 = .ok (.iconst 0, 1) := by decide +kernel
theorem dX6_countMetered_4 : decode cX6_countMetered 4 = .ok (.istore 5, 2) := by decide +kernel
theorem dX6_countMetered_6 : decode cX6_countMetered 6 = .ok (.iload 5, 2) := by decide +kernel
theorem dX6_countMetered_8 : decode cX6_countMetered 8 = .ok (.aload_n 0, 1) := by decide +kernel
theorem dX6_countMetered_9 : decode cX6_countMetered 9 = .ok (.getfield 12, 3) := by decide +kernel
theorem dX6_countMetered_12 : decode cX6_countMetered 12 = .ok (.getfield 42, 3) := by decide +kernel
theorem dX6_countMetered_15 : decode cX6_countMetered 15 = .ok (.if_icmp .ge 51, 3) := by decide +kernel
theorem dX6_countMetered_18 : decode cX6_countMetered 18 = .ok (.iload_n 3, 1) := by decide +kernel
theorem dX6_countMetered_19 : decode cX6_countMetered 19 = .ok (.iload 5, 2) := by decide +kernel
theorem dX6_countMetered_21 : decode cX6_countMetered 21 = .ok (.invokestatic 91, 3) := by decide +kernel
theorem dX6_countMetered_24 : decode cX6_countMetered 24 = .ok (.ifCond .eq 36, 3) := by decide +kernel
theorem dX6_countMetered_27 : decode cX6_countMetered 27 = .ok (.aload_n 0, 1) := by decide +kernel
theorem dX6_countMetered_28 : decode cX6_countMetered 28 = .ok (.getfield 12, 3) := by decide +kernel
theorem dX6_countMetered_31 : decode cX6_countMetered 31 = .ok (.getfield 129, 3) := by decide +kernel
theorem dX6_countMetered_34 : decode cX6_countMetered 34 = .ok (.iload 5, 2) := by decide +kernel
theorem dX6_countMetered_36 : decode cX6_countMetered 36 = .ok (.aaload, 1) := by decide +kernel
theorem dX6_countMetered_37 : decode cX6_countMetered 37 = .ok (.invokevirtual 138, 3) := by decide +kernel
theorem dX6_countMetered_40 : decode cX6_countMetered 40 = .ok (.ifCond .eq 20, 3) := by decide +kernel
theorem dX6_countMetered_43 : decode cX6_countMetered 43 = .ok (.aload_n 0, 1) := by decide +kernel
theorem dX6_countMetered_44 : decode cX6_countMetered 44 = .ok (.getfield 12, 3) := by decide +kernel
theorem dX6_countMetered_47 : decode cX6_countMetered 47 = .ok (.iload 5, 2) := by decide +kernel
theorem dX6_countMetered_49 : decode cX6_countMetered 49 = .ok (.iload_n 1, 1) := by decide +kernel
theorem dX6_countMetered_50 : decode cX6_countMetered 50 = .ok (.invokevirtual 142, 3) := by decide +kernel
theorem dX6_countMetered_53 : decode cX6_countMetered 53 = .ok (.iload_n 2, 1) := by decide +kernel
theorem dX6_countMetered_54 : decode cX6_countMetered 54 = .ok (.if_icmp .lt 6, 3) := by decide +kernel
theorem dX6_countMetered_57 : decode cX6_countMetered 57 = .ok (.iinc 4 1, 3) := by decide +kernel
theorem dX6_countMetered_60 : decode cX6_countMetered 60 = .ok (.iinc 5 1, 3) := by decide +kernel
theorem dX6_countMetered_63 : decode cX6_countMetered 63 = .ok (.goto (-57), 3) := by decide +kernel
theorem dX6_countMetered_66 : decode cX6_countMetered 66 = .ok (.iload 4, 2) := by decide +kernel
theorem dX6_countMetered_68 : decode cX6_countMetered 68 = .ok (.ireturn, 1) := by decide +kernel
theorem dX6_spotForMeter_0 : decode cX6_spotForMeter 0 = .ok (.aload_n 0, 1) := by decide +kernel
theorem dX6_spotForMeter_1 : decode cX6_spotForMeter 1 = .ok (.getfield 12, 3) := by decide +kernel
theorem dX6_spotForMeter_4 : decode cX6_spotForMeter 4 = .ok (.iload_n 2, 1) := by decide +kernel
theorem dX6_spotForMeter_5 : decode cX6_spotForMeter 5 = .ok (.iload_n 3, 1) := by decide +kernel
theorem dX6_spotForMeter_6 : decode cX6_spotForMeter 6 = .ok (.invokevirtual 97, 3) := by decide +kernel
theorem dX6_spotForMeter_9 : decode cX6_spotForMeter 9 = .ok (.istore 4, 2) := by decide +kernel
theorem dX6_spotForMeter_11 : decode cX6_spotForMeter 11 = .ok (.iconst 0, 1) := by decide +kernel
theorem dX6_spotForMeter_12 : decode cX6_spotForMeter 12 = .ok (.istore 5, 2) := by decide +kernel
theorem dX6_spotForMeter_14 : decode cX6_spotForMeter 14 = .ok (.iconst 0, 1) := by decide +kernel
theorem dX6_spotForMeter_15 : decode cX6_spotForMeter 15 = .ok (.istore 6, 2) := by decide +kernel
theorem dX6_spotForMeter_17 : decode cX6_spotForMeter 17 = .ok (.iconst 0, 1) := by decide +kernel
theorem dX6_spotForMeter_18 : decode cX6_spotForMeter 18 = .ok (.istore 7, 2) := by decide +kernel
theorem dX6_spotForMeter_20 : decode cX6_spotForMeter 20 = .ok (.iload 7, 2) := by decide +kernel
theorem dX6_spotForMeter_22 : decode cX6_spotForMeter 22 = .ok (.bipush 64, 2) := by decide +kernel
theorem dX6_spotForMeter_24 : decode cX6_spotForMeter 24 = .ok (.if_icmp .ge 35, 3) := by decide +kernel
theorem dX6_spotForMeter_27 : decode cX6_spotForMeter 27 = .ok (.aload_n 0, 1) := by decide +kernel
theorem dX6_spotForMeter_28 : decode cX6_spotForMeter 28 = .ok (.iload 7, 2) := by decide +kernel
theorem dX6_spotForMeter_30 : decode cX6_spotForMeter 30 = .ok (.iload_n 1, 1) := by decide +kernel
theorem dX6_spotForMeter_31 : decode cX6_spotForMeter 31 = .ok (.iload 4, 2) := by decide +kernel
theorem dX6_spotForMeter_33 : decode cX6_spotForMeter 33 = .ok (.invokevirtual 145, 3) := by decide +kernel
theorem dX6_spotForMeter_36 : decode cX6_spotForMeter 36 = .ok (.istore 8, 2) := by decide +kernel
theorem dX6_spotForMeter_38 : decode cX6_spotForMeter 38 = .ok (.iload 8, 2) := by decide +kernel
theorem dX6_spotForMeter_40 : decode cX6_spotForMeter 40 = .ok (.iload 6, 2) := by decide +kernel
theorem dX6_spotForMeter_42 : decode cX6_spotForMeter 42 = .ok (.if_icmp .le 11, 3) := by decide +kernel
theorem dX6_spotForMeter_45 : decode cX6_spotForMeter 45 = .ok (.iload 7, 2) := by decide +kernel
theorem dX6_spotForMeter_47 : decode cX6_spotForMeter 47 = .ok (.istore 5, 2) := by decide +kernel
theorem dX6_spotForMeter_49 : decode cX6_spotForMeter 49 = .ok (.iload 8, 2) := by decide +kernel
theorem dX6_spotForMeter_51 : decode cX6_spotForMeter 51 = .ok (.istore 6, 2) := by decide +kernel
theorem dX6_spotForMeter_53 : decode cX6_spotForMeter 53 = .ok (.iinc 7 1, 3) := by decide +kernel
theorem dX6_spotForMeter_56 : decode cX6_spotForMeter 56 = .ok (.goto (-36), 3) := by decide +kernel
theorem dX6_spotForMeter_59 : decode cX6_spotForMeter 59 = .ok (.iload 5, 2) := by decide +kernel
theorem dX6_spotForMeter_61 : decode cX6_spotForMeter 61 = .ok (.ireturn, 1) := by decide +kernel
theorem dX6_spotForBed_0 : decode cX6_spotForBed 0 = .ok (.aload_n 0, 1) := by decide +kernel
theorem dX6_spotForBed_1 : decode cX6_spotForBed 1 = .ok (.getfield 12, 3) := by decide +kernel
theorem dX6_spotForBed_4 : decode cX6_spotForBed 4 = .ok (.iload_n 2, 1) := by decide +kernel
theorem dX6_spotForBed_5 : decode cX6_spotForBed 5 = .ok (.iload_n 3, 1) := by decide +kernel
theorem dX6_spotForBed_6 : decode cX6_spotForBed 6 = .ok (.invokevirtual 97, 3) := by decide +kernel
theorem dX6_spotForBed_9 : decode cX6_spotForBed 9 = .ok (.istore 4, 2) := by decide +kernel
theorem dX6_spotForBed_11 : decode cX6_spotForBed 11 = .ok (.aload_n 0, 1) := by decide +kernel
theorem dX6_spotForBed_12 : decode cX6_spotForBed 12 = .ok (.getfield 12, 3) := by decide +kernel
theorem dX6_spotForBed_15 : decode cX6_spotForBed 15 = .ok (.getfield 106, 3) := by decide +kernel
theorem dX6_spotForBed_18 : decode cX6_spotForBed 18 = .ok (.iload_n 1, 1) := by decide +kernel
theorem dX6_spotForBed_19 : decode cX6_spotForBed 19 = .ok (.aaload, 1) := by decide +kernel
theorem dX6_spotForBed_20 : decode cX6_spotForBed 20 = .ok (.getfield 110, 3) := by decide +kernel
theorem dX6_spotForBed_23 : decode cX6_spotForBed 23 = .ok (.istore 5, 2) := by decide +kernel
theorem dX6_spotForBed_25 : decode cX6_spotForBed 25 = .ok (.iload 5, 2) := by decide +kernel
theorem dX6_spotForBed_27 : decode cX6_spotForBed 27 = .ok (.istore 6, 2) := by decide +kernel
theorem dX6_spotForBed_29 : decode cX6_spotForBed 29 = .ok (.aload_n 0, 1) := by decide +kernel
theorem dX6_spotForBed_30 : decode cX6_spotForBed 30 = .ok (.iload_n 1, 1) := by decide +kernel
theorem dX6_spotForBed_31 : decode cX6_spotForBed 31 = .ok (.iload 4, 2) := by decide +kernel
theorem dX6_spotForBed_33 : decode cX6_spotForBed 33 = .ok (.invokevirtual 103, 3) := by decide +kernel
theorem dX6_spotForBed_36 : decode cX6_spotForBed 36 = .ok (.invokestatic 149, 3) := by decide +kernel
theorem dX6_spotForBed_39 : decode cX6_spotForBed 39 = .ok (.istore 7, 2) := by decide +kernel
theorem dX6_spotForBed_41 : decode cX6_spotForBed 41 = .ok (.iconst 0, 1) := by decide +kernel
theorem dX6_spotForBed_42 : decode cX6_spotForBed 42 = .ok (.istore 8, 2) := by decide +kernel
theorem dX6_spotForBed_44 : decode cX6_spotForBed 44 = .ok (.iload 8, 2) := by decide +kernel
theorem dX6_spotForBed_46 : decode cX6_spotForBed 46 = .ok (.bipush 64, 2) := by decide +kernel
theorem dX6_spotForBed_48 : decode cX6_spotForBed 48 = .ok (.if_icmp .ge 78, 3) := by decide +kernel
theorem dX6_spotForBed_51 : decode cX6_spotForBed 51 = .ok (.aload_n 0, 1) := by decide +kernel
theorem dX6_spotForBed_52 : decode cX6_spotForBed 52 = .ok (.getfield 12, 3) := by decide +kernel
theorem dX6_spotForBed_55 : decode cX6_spotForBed 55 = .ok (.iload_n 1, 1) := by decide +kernel
theorem dX6_spotForBed_56 : decode cX6_spotForBed 56 = .ok (.iload 8, 2) := by decide +kernel
theorem dX6_spotForBed_58 : decode cX6_spotForBed 58 = .ok (.invokevirtual 79, 3) := by decide +kernel
theorem dX6_spotForBed_61 : decode cX6_spotForBed 61 = .ok (.iload 4, 2) := by decide +kernel
theorem dX6_spotForBed_63 : decode cX6_spotForBed 63 = .ok (.iand, 1) := by decide +kernel
theorem dX6_spotForBed_64 : decode cX6_spotForBed 64 = .ok (.invokestatic 149, 3) := by decide +kernel
theorem dX6_spotForBed_67 : decode cX6_spotForBed 67 = .ok (.istore 9, 2) := by decide +kernel
theorem dX6_spotForBed_69 : decode cX6_spotForBed 69 = .ok (.iload 8, 2) := by decide +kernel
theorem dX6_spotForBed_71 : decode cX6_spotForBed 71 = .ok (.iload 5, 2) := by decide +kernel
theorem dX6_spotForBed_73 : decode cX6_spotForBed 73 = .ok (.invokestatic 154, 3) := by decide +kernel
theorem dX6_spotForBed_76 : decode cX6_spotForBed 76 = .ok (.iload 6, 2) := by decide +kernel
theorem dX6_spotForBed_78 : decode cX6_spotForBed 78 = .ok (.iload 5, 2) := by decide +kernel
theorem dX6_spotForBed_80 : decode cX6_spotForBed 80 = .ok (.invokestatic 154, 3) := by decide +kernel
theorem dX6_spotForBed_83 : decode cX6_spotForBed 83 = .ok (.if_icmp .ge 7, 3) := by decide +kernel
theorem dX6_spotForBed_86 : decode cX6_spotForBed 86 = .ok (.iconst 1, 1) := by decide +kernel
theorem dX6_spotForBed_87 : decode cX6_spotForBed 87 = .ok (.goto 4, 3) := by decide +kernel
theorem dX6_spotForBed_90 : decode cX6_spotForBed 90 = .ok (.iconst 0, 1) := by decide +kernel
theorem dX6_spotForBed_91 : decode cX6_spotForBed 91 = .ok (.istore 10, 2) := by decide +kernel
theorem dX6_spotForBed_93 : decode cX6_spotForBed 93 = .ok (.iload 9, 2) := by decide +kernel
theorem dX6_spotForBed_95 : decode cX6_spotForBed 95 = .ok (.iload 7, 2) := by decide +kernel
theorem dX6_spotForBed_97 : decode cX6_spotForBed 97 = .ok (.if_icmp .lt 15, 3) := by decide +kernel
theorem dX6_spotForBed_100 : decode cX6_spotForBed 100 = .ok (.iload 9, 2) := by decide +kernel
theorem dX6_spotForBed_102 : decode cX6_spotForBed 102 = .ok (.iload 7, 2) := by decide +kernel
theorem dX6_spotForBed_104 : decode cX6_spotForBed 104 = .ok (.if_icmp .ne 16, 3) := by decide +kernel
theorem dX6_spotForBed_107 : decode cX6_spotForBed 107 = .ok (.iload 10, 2) := by decide +kernel
theorem dX6_spotForBed_109 : decode cX6_spotForBed 109 = .ok (.ifCond .eq 11, 3) := by decide +kernel
theorem dX6_spotForBed_112 : decode cX6_spotForBed 112 = .ok (.iload 8, 2) := by decide +kernel
theorem dX6_spotForBed_114 : decode cX6_spotForBed 114 = .ok (.istore 6, 2) := by decide +kernel
theorem dX6_spotForBed_116 : decode cX6_spotForBed 116 = .ok (.iload 9, 2) := by decide +kernel
theorem dX6_spotForBed_118 : decode cX6_spotForBed 118 = .ok (.istore 7, 2) := by decide +kernel
theorem dX6_spotForBed_120 : decode cX6_spotForBed 120 = .ok (.iinc 8 1, 3) := by decide +kernel
theorem dX6_spotForBed_123 : decode cX6_spotForBed 123 = .ok (.goto (-79), 3) := by decide +kernel
theorem dX6_spotForBed_126 : decode cX6_spotForBed 126 = .ok (.iload 6, 2) := by decide +kernel
theorem dX6_spotForBed_128 : decode cX6_spotForBed 128 = .ok (.ireturn, 1) := by decide +kernel
theorem dX7_init_0 : decode cX7_init 0 = .ok (.aload_n 0, 1) := by decide +kernel
theorem dX7_init_1 : decode cX7_init 1 = .ok (.invokespecial 3, 3) := by decide +kernel
theorem dX7_init_4 : decode cX7_init 4 = .ok (.aload_n 0, 1) := by decide +kernel
theorem dX7_init_5 : decode cX7_init 5 = .ok (.iconst (-1), 1) := by decide +kernel
theorem dX7_init_6 : decode cX7_init 6 = .ok (.putfield 9, 3) := by decide +kernel
theorem dX7_init_9 : decode cX7_init 9 = .ok (.aload_n 0, 1) := by decide +kernel
theorem dX7_init_10 : decode cX7_init 10 = .ok (.iconst 0, 1) := by decide +kernel
theorem dX7_init_11 : decode cX7_init 11 = .ok (.putfield 15, 3) := by decide +kernel
theorem dX7_init_14 : decode cX7_init 14 = .ok (.aload_n 0, 1) := by decide +kernel
theorem dX7_init_15 : decode cX7_init 15 = .ok (.bipush 60, 2) := by decide +kernel
theorem dX7_init_17 : decode cX7_init 17 = .ok (.newarray .long, 2) := by decide +kernel
theorem dX7_init_19 : decode cX7_init 19 = .ok (.putfield 18, 3) := by decide +kernel
theorem dX7_init_22 : decode cX7_init 22 = .ok (.return_, 1) := by decide +kernel
theorem dX7_content_0 : decode cX7_content 0 = .ok (.aload_n 0, 1) := by decide +kernel
theorem dX7_content_1 : decode cX7_content 1 = .ok (.getfield 9, 3) := by decide +kernel
theorem dX7_content_4 : decode cX7_content 4 = .ok (.ireturn, 1) := by decide +kernel
theorem dX7_count_0 : decode cX7_count 0 = .ok (.aload_n 0, 1) := by decide +kernel
theorem dX7_count_1 : decode cX7_count 1 = .ok (.getfield 15, 3) := by decide +kernel
theorem dX7_count_4 : decode cX7_count 4 = .ok (.ireturn, 1) := by decide +kernel
theorem dX7_holdsNothing_0 : decode cX7_holdsNothing 0 = .ok (.aload_n 0, 1) := by decide +kernel
theorem dX7_holdsNothing_1 : decode cX7_holdsNothing 1 = .ok (.getfield 9, 3) := by decide +kernel
theorem dX7_holdsNothing_4 : decode cX7_holdsNothing 4 = .ok (.iconst (-1), 1) := by decide +kernel
theorem dX7_holdsNothing_5 : decode cX7_holdsNothing 5 = .ok (.if_icmp .ne 7, 3) := by decide +kernel
theorem dX7_holdsNothing_8 : decode cX7_holdsNothing 8 = .ok (.iconst 1, 1) := by decide +kernel
theorem dX7_holdsNothing_9 : decode cX7_holdsNothing 9 = .ok (.goto 4, 3) := by decide +kernel
theorem dX7_holdsNothing_12 : decode cX7_holdsNothing 12 = .ok (.iconst 0, 1) := by decide +kernel
theorem dX7_holdsNothing_13 : decode cX7_holdsNothing 13 = .ok (.ireturn, 1) := by decide +kernel
theorem dX7_holdsRow_0 : decode cX7_holdsRow 0 = .ok (.aload_n 0, 1) := by decide +kernel
theorem dX7_holdsRow_1 : decode cX7_holdsRow 1 = .ok (.getfield 9, 3) := by decide +kernel
theorem dX7_holdsRow_4 : decode cX7_holdsRow 4 = .ok (.bipush 100, 2) := by decide +kernel
theorem dX7_holdsRow_6 : decode cX7_holdsRow 6 = .ok (.if_icmp .lt 7, 3) := by decide +kernel
theorem dX7_holdsRow_9 : decode cX7_holdsRow 9 = .ok (.iconst 1, 1) := by decide +kernel
theorem dX7_holdsRow_10 : decode cX7_holdsRow 10 = .ok (.goto 4, 3) := by decide +kernel
theorem dX7_holdsRow_13 : decode cX7_holdsRow 13 = .ok (.iconst 0, 1) := by decide +kernel
theorem dX7_holdsRow_14 : decode cX7_holdsRow 14 = .ok (.ireturn, 1) := by decide +kernel
theorem dX7_holdsSource_0 : decode cX7_holdsSource 0 = .ok (.aload_n 0, 1) := by decide +kernel
theorem dX7_holdsSource_1 : decode cX7_holdsSource 1 = .ok (.invokevirtual 22, 3) := by decide +kernel
theorem dX7_holdsSource_4 : decode cX7_holdsSource 4 = .ok (.ifCond .ne 14, 3) := by decide +kernel
theorem dX7_holdsSource_7 : decode cX7_holdsSource 7 = .ok (.aload_n 0, 1) := by decide +kernel
theorem dX7_holdsSource_8 : decode cX7_holdsSource 8 = .ok (.invokevirtual 26, 3) := by decide +kernel
theorem dX7_holdsSource_11 : decode cX7_holdsSource 11 = .ok (.ifCond .ne 7, 3) := by decide +kernel
theorem dX7_holdsSource_14 : decode cX7_holdsSource 14 = .ok (.iconst 1, 1) := by decide +kernel
theorem dX7_holdsSource_15 : decode cX7_holdsSource 15 = .ok (.goto 4, 3) := by decide +kernel
theorem dX7_holdsSource_18 : decode cX7_holdsSource 18 = .ok (.iconst 0, 1) := by decide +kernel
theorem dX7_holdsSource_19 : decode cX7_holdsSource 19 = .ok (.ireturn, 1) := by decide +kernel
theorem dX7_isOfOtherSort_0 : decode cX7_isOfOtherSort 0 = .ok (.aload_n 0, 1) := by decide +kernel
theorem dX7_isOfOtherSort_1 : decode cX7_isOfOtherSort 1 = .ok (.invokevirtual 26, 3) := by decide +kernel
theorem dX7_isOfOtherSort_4 : decode cX7_isOfOtherSort 4 = .ok (.ifCond .eq 25, 3) := by decide +kernel
theorem dX7_isOfOtherSort_7 : decode cX7_isOfOtherSort 7 = .ok (.aload_n 1, 1) := by decide +kernel
theorem dX7_isOfOtherSort_8 : decode cX7_isOfOtherSort 8 = .ok (.invokevirtual 26, 3) := by decide +kernel
theorem dX7_isOfOtherSort_11 : decode cX7_isOfOtherSort 11 = .ok (.ifCond .eq 18, 3) := by decide +kernel
theorem dX7_isOfOtherSort_14 : decode cX7_isOfOtherSort 14 = .ok (.aload_n 0, 1) := by decide +kernel
theorem dX7_isOfOtherSort_15 : decode cX7_isOfOtherSort 15 = .ok (.getfield 9, 3) := by decide +kernel
theorem dX7_isOfOtherSort_18 : decode cX7_isOfOtherSort 18 = .ok (.aload_n 1, 1) := by decide +kernel
theorem dX7_isOfOtherSort_19 : decode cX7_isOfOtherSort 19 = .ok (.getfield 9, 3) := by decide +kernel
theorem dX7_isOfOtherSort_22 : decode cX7_isOfOtherSort 22 = .ok (.if_icmp .eq 7, 3) := by decide +kernel
theorem dX7_isOfOtherSort_25 : decode cX7_isOfOtherSort 25 = .ok (.iconst 1, 1) := by decide +kernel
theorem dX7_isOfOtherSort_26 : decode cX7_isOfOtherSort 26 = .ok (.goto 4, 3) := by decide +kernel
theorem dX7_isOfOtherSort_29 : decode cX7_isOfOtherSort 29 = .ok (.iconst 0, 1) := by decide +kernel
theorem dX7_isOfOtherSort_30 : decode cX7_isOfOtherSort 30 = .ok (.ireturn, 1) := by decide +kernel
theorem dX7_becomeEmpty_0 : decode cX7_becomeEmpty 0 = .ok (.aload_n 0, 1) := by decide +kernel
theorem dX7_becomeEmpty_1 : decode cX7_becomeEmpty 1 = .ok (.iconst (-1), 1) := by decide +kernel
theorem dX7_becomeEmpty_2 : decode cX7_becomeEmpty 2 = .ok (.putfield 9, 3) := by decide +kernel
theorem dX7_becomeEmpty_5 : decode cX7_becomeEmpty 5 = .ok (.aload_n 0, 1) := by decide +kernel
theorem dX7_becomeEmpty_6 : decode cX7_becomeEmpty 6 = .ok (.iconst 0, 1) := by decide +kernel
theorem dX7_becomeEmpty_7 : decode cX7_becomeEmpty 7 = .ok (.putfield 15, 3) := by decide +kernel
theorem dX7_becomeEmpty_10 : decode cX7_becomeEmpty 10 = .ok (.return_, 1) := by decide +kernel
theorem dX7_takeSource_0 : decode cX7_takeSource 0 = .ok (.aload_n 0, 1) := by decide +kernel
theorem dX7_takeSource_1 : decode cX7_takeSource 1 = .ok (.iload_n 1, 1) := by decide +kernel
theorem dX7_takeSource_2 : decode cX7_takeSource 2 = .ok (.putfield 9, 3) := by decide +kernel
theorem dX7_takeSource_5 : decode cX7_takeSource 5 = .ok (.aload_n 0, 1) := by decide +kernel
theorem dX7_takeSource_6 : decode cX7_takeSource 6 = .ok (.iconst 0, 1) := by decide +kernel
theorem dX7_takeSource_7 : decode cX7_takeSource 7 = .ok (.putfield 15, 3) := by decide +kernel
theorem dX7_takeSource_10 : decode cX7_takeSource 10 = .ok (.return_, 1) := by decide +kernel
theorem dX7_takeRow_0 : decode cX7_takeRow 0 = .ok (.aload_n 0, 1) := by decide +kernel
theorem dX7_takeRow_1 : decode cX7_takeRow 1 = .ok (.bipush 100, 2) := by decide +kernel
theorem dX7_takeRow_3 : decode cX7_takeRow 3 = .ok (.iload_n 1, 1) := by decide +kernel
theorem dX7_takeRow_4 : decode cX7_takeRow 4 = .ok (.iadd, 1) := by decide +kernel
theorem dX7_takeRow_5 : decode cX7_takeRow 5 = .ok (.putfield 9, 3) := by decide +kernel
theorem dX7_takeRow_8 : decode cX7_takeRow 8 = .ok (.aload_n 0, 1) := by decide +kernel
theorem dX7_takeRow_9 : decode cX7_takeRow 9 = .ok (.iload_n 2, 1) := by decide +kernel
theorem dX7_takeRow_10 : decode cX7_takeRow 10 = .ok (.putfield 15, 3) := by decide +kernel
theorem dX7_takeRow_13 : decode cX7_takeRow 13 = .ok (.iconst 0, 1) := by decide +kernel
theorem dX7_takeRow_14 : decode cX7_takeRow 14 = .ok (.istore_n 3, 1) := by decide +kernel
theorem dX7_takeRow_15 : decode cX7_takeRow 15 = .ok (.iload_n 3, 1) := by decide +kernel
theorem dX7_takeRow_16 : decode cX7_takeRow 16 = .ok (.iload_n 2, 1) := by decide +kernel
theorem dX7_takeRow_17 : decode cX7_takeRow 17 = .ok (.if_icmp .ge 16, 3) := by decide +kernel
theorem dX7_takeRow_20 : decode cX7_takeRow 20 = .ok (.aload_n 0, 1) := by decide +kernel
theorem dX7_takeRow_21 : decode cX7_takeRow 21 = .ok (.getfield 18, 3) := by decide +kernel
theorem dX7_takeRow_24 : decode cX7_takeRow 24 = .ok (.iload_n 3, 1) := by decide +kernel
theorem dX7_takeRow_25 : decode cX7_takeRow 25 = .ok (.lconst 0, 1) := by decide +kernel
theorem dX7_takeRow_26 : decode cX7_takeRow 26 = .ok (.lastore, 1) := by decide +kernel
theorem dX7_takeRow_27 : decode cX7_takeRow 27 = .ok (.iinc 3 1, 3) := by decide +kernel
theorem dX7_takeRow_30 : decode cX7_takeRow 30 = .ok (.goto (-15), 3) := by decide +kernel
theorem dX7_takeRow_33 : decode cX7_takeRow 33 = .ok (.return_, 1) := by decide +kernel
theorem dX7_hasElement_0 : decode cX7_hasElement 0 = .ok (.iload_n 1, 1) := by decide +kernel
theorem dX7_hasElement_1 : decode cX7_hasElement 1 = .ok (.ifCond .lt 15, 3) := by decide +kernel
theorem dX7_hasElement_4 : decode cX7_hasElement 4 = .ok (.iload_n 1, 1) := by decide +kernel
theorem dX7_hasElement_5 : decode cX7_hasElement 5 = .ok (.aload_n 0, 1) := by decide +kernel
theorem dX7_hasElement_6 : decode cX7_hasElement 6 = .ok (.getfield 15, 3) := by decide +kernel
theorem dX7_hasElement_9 : decode cX7_hasElement 9 = .ok (.if_icmp .ge 7, 3) := by decide +kernel
theorem dX7_hasElement_12 : decode cX7_hasElement 12 = .ok (.iconst 1, 1) := by decide +kernel
theorem dX7_hasElement_13 : decode cX7_hasElement 13 = .ok (.goto 4, 3) := by decide +kernel
theorem dX7_hasElement_16 : decode cX7_hasElement 16 = .ok (.iconst 0, 1) := by decide +kernel
theorem dX7_hasElement_17 : decode cX7_hasElement 17 = .ok (.ireturn, 1) := by decide +kernel
theorem dX7_hasElements_0 : decode cX7_hasElements 0 = .ok (.iload_n 1, 1) := by decide +kernel
theorem dX7_hasElements_1 : decode cX7_hasElements 1 = .ok (.ifCond .lt 29, 3) := by decide +kernel
theorem dX7_hasElements_4 : decode cX7_hasElements 4 = .ok (.iload_n 1, 1) := by decide +kernel
theorem dX7_hasElements_5 : decode cX7_hasElements 5 = .ok (.aload_n 0, 1) := by decide +kernel
theorem dX7_hasElements_6 : decode cX7_hasElements 6 = .ok (.getfield 15, 3) := by decide +kernel
theorem dX7_hasElements_9 : decode cX7_hasElements 9 = .ok (.if_icmp .gt 21, 3) := by decide +kernel
theorem dX7_hasElements_12 : decode cX7_hasElements 12 = .ok (.iload_n 2, 1) := by decide +kernel
theorem dX7_hasElements_13 : decode cX7_hasElements 13 = .ok (.ifCond .lt 17, 3) := by decide +kernel
theorem dX7_hasElements_16 : decode cX7_hasElements 16 = .ok (.iload_n 2, 1) := by decide +kernel
theorem dX7_hasElements_17 : decode cX7_hasElements 17 = .ok (.aload_n 0, 1) := by decide +kernel
theorem dX7_hasElements_18 : decode cX7_hasElements 18 = .ok (.getfield 15, 3) := by decide +kernel
theorem dX7_hasElements_21 : decode cX7_hasElements 21 = .ok (.iload_n 1, 1) := by decide +kernel
theorem dX7_hasElements_22 : decode cX7_hasElements 22 = .ok (.isub, 1) := by decide +kernel
theorem dX7_hasElements_23 : decode cX7_hasElements 23 = .ok (.if_icmp .gt 7, 3) := by decide +kernel
theorem dX7_hasElements_26 : decode cX7_hasElements 26 = .ok (.iconst 1, 1) := by decide +kernel
theorem dX7_hasElements_27 : decode cX7_hasElements 27 = .ok (.goto 4, 3) := by decide +kernel
theorem dX7_hasElements_30 : decode cX7_hasElements 30 = .ok (.iconst 0, 1) := by decide +kernel
theorem dX7_hasElements_31 : decode cX7_hasElements 31 = .ok (.ireturn, 1) := by decide +kernel
theorem dX7_elementAt_0 : decode cX7_elementAt 0 = .ok (.aload_n 0, 1) := by decide +kernel
theorem dX7_elementAt_1 : decode cX7_elementAt 1 = .ok (.iload_n 1, 1) := by decide +kernel
theorem dX7_elementAt_2 : decode cX7_elementAt 2 = .ok (.invokevirtual 29, 3) := by decide +kernel
theorem dX7_elementAt_5 : decode cX7_elementAt 5 = .ok (.ifCond .eq 12, 3) := by decide +kernel
theorem dX7_elementAt_8 : decode cX7_elementAt 8 = .ok (.aload_n 0, 1) := by decide +kernel
theorem dX7_elementAt_9 : decode cX7_elementAt 9 = .ok (.getfield 18, 3) := by decide +kernel
theorem dX7_elementAt_12 : decode cX7_elementAt 12 = .ok (.iload_n 1, 1) := by decide +kernel
theorem dX7_elementAt_13 : decode cX7_elementAt 13 = .ok (.laload, 1) := by decide +kernel
theorem dX7_elementAt_14 : decode cX7_elementAt 14 = .ok (.goto 4, 3) := by decide +kernel
theorem dX7_elementAt_17 : decode cX7_elementAt 17 = .ok (.lconst 0, 1) := by decide +kernel
theorem dX7_elementAt_18 : decode cX7_elementAt 18 = .ok (.lreturn, 1) := by decide +kernel
theorem dX7_intAt_0 : decode cX7_intAt 0 = .ok (.aload_n 0, 1) := by decide +kernel
theorem dX7_intAt_1 : decode cX7_intAt 1 = .ok (.iload_n 1, 1) := by decide +kernel
theorem dX7_intAt_2 : decode cX7_intAt 2 = .ok (.invokevirtual 33, 3) := by decide +kernel
theorem dX7_intAt_5 : decode cX7_intAt 5 = .ok (.l2i, 1) := by decide +kernel
theorem dX7_intAt_6 : decode cX7_intAt 6 = .ok (.ireturn, 1) := by decide +kernel
theorem dX7_put_0 : decode cX7_put 0 = .ok (.aload_n 0, 1) := by decide +kernel
theorem dX7_put_1 : decode cX7_put 1 = .ok (.iload_n 1, 1) := by decide +kernel
theorem dX7_put_2 : decode cX7_put 2 = .ok (.invokevirtual 29, 3) := by decide +kernel
theorem dX7_put_5 : decode cX7_put 5 = .ok (.ifCond .eq 14, 3) := by decide +kernel
theorem dX7_put_8 : decode cX7_put 8 = .ok (.aload_n 0, 1) := by decide +kernel
theorem dX7_put_9 : decode cX7_put 9 = .ok (.getfield 18, 3) := by decide +kernel
theorem dX7_put_12 : decode cX7_put 12 = .ok (.iload_n 1, 1) := by decide +kernel
theorem dX7_put_13 : decode cX7_put 13 = .ok (.aload_n 0, 1) := by decide +kernel
theorem dX7_put_14 : decode cX7_put 14 = .ok (.lload_n 2, 1) := by decide +kernel
theorem dX7_put_15 : decode cX7_put 15 = .ok (.invokevirtual 37, 3) := by decide +kernel
theorem dX7_put_18 : decode cX7_put 18 = .ok (.lastore, 1) := by decide +kernel
theorem dX7_put_19 : decode cX7_put 19 = .ok (.return_, 1) := by decide +kernel
theorem dX7_lowestBits_0 : decode cX7_lowestBits 0 = .ok (.aload_n 0, 1) := by decide +kernel
theorem dX7_lowestBits_1 : decode cX7_lowestBits 1 = .ok (.getfield 9, 3) := by decide +kernel
theorem dX7_lowestBits_4 : decode cX7_lowestBits 4 = .ok (.bipush 100, 2) := by decide +kernel
theorem dX7_lowestBits_6 : decode cX7_lowestBits 6 = .ok (.isub, 1) := by decide +kernel
theorem dX7_lowestBits_7 : decode cX7_lowestBits 7 = .ok (.tableswitch 39 0 2 #[25, 30, 35], 25) := by decide +kernel
theorem dX7_lowestBits_32 : decode cX7_lowestBits 32 = .ok (.lload_n 1, 1) := by decide +kernel
theorem dX7_lowestBits_33 : decode cX7_lowestBits 33 = .ok (.l2i, 1) := by decide +kernel
theorem dX7_lowestBits_34 : decode cX7_lowestBits 34 = .ok (.i2b, 1) := by decide +kernel
theorem dX7_lowestBits_35 : decode cX7_lowestBits 35 = .ok (.i2l, 1) := by decide +kernel
theorem dX7_lowestBits_36 : decode cX7_lowestBits 36 = .ok (.lreturn, 1) := by decide +kernel
theorem dX7_lowestBits_37 : decode cX7_lowestBits 37 = .ok (.lload_n 1, 1) := by decide +kernel
theorem dX7_lowestBits_38 : decode cX7_lowestBits 38 = .ok (.l2i, 1) := by decide +kernel
theorem dX7_lowestBits_39 : decode cX7_lowestBits 39 = .ok (.i2s, 1) := by decide +kernel
theorem dX7_lowestBits_40 : decode cX7_lowestBits 40 = .ok (.i2l, 1) := by decide +kernel
theorem dX7_lowestBits_41 : decode cX7_lowestBits 41 = .ok (.lreturn, 1) := by decide +kernel
theorem dX7_lowestBits_42 : decode cX7_lowestBits 42 = .ok (.lload_n 1, 1) := by decide +kernel
theorem dX7_lowestBits_43 : decode cX7_lowestBits 43 = .ok (.l2i, 1) := by decide +kernel
theorem dX7_lowestBits_44 : decode cX7_lowestBits 44 = .ok (.i2l, 1) := by decide +kernel
theorem dX7_lowestBits_45 : decode cX7_lowestBits 45 = .ok (.lreturn, 1) := by decide +kernel
theorem dX7_lowestBits_46 : decode cX7_lowestBits 46 = .ok (.lload_n 1, 1) := by decide +kernel
theorem dX7_lowestBits_47 : decode cX7_lowestBits 47 = .ok (.lreturn, 1) := by decide +kernel
theorem dX7_copyElements_0 : decode cX7_copyElements 0 = .ok (.aload_n 0, 1) := by decide +kernel
theorem dX7_copyElements_1 : decode cX7_copyElements 1 = .ok (.iload_n 1, 1) := by decide +kernel
theorem dX7_copyElements_2 : decode cX7_copyElements 2 = .ok (.iload 4, 2) := by decide +kernel
theorem dX7_copyElements_4 : decode cX7_copyElements 4 = .ok (.invokevirtual 41, 3) := by decide +kernel
theorem dX7_copyElements_7 : decode cX7_copyElements 7 = .ok (.ifCond .eq 28, 3) := by decide +kernel
theorem dX7_copyElements_10 : decode cX7_copyElements 10 = .ok (.aload_n 2, 1) := by decide +kernel
theorem dX7_copyElements_11 : decode cX7_copyElements 11 = .ok (.iload_n 3, 1) := by decide +kernel
theorem dX7_copyElements_12 : decode cX7_copyElements 12 = .ok (.iload 4, 2) := by decide +kernel
theorem dX7_copyElements_14 : decode cX7_copyElements 14 = .ok (.invokevirtual 41, 3) := by decide +kernel
theorem dX7_copyElements_17 : decode cX7_copyElements 17 = .ok (.ifCond .eq 18, 3) := by decide +kernel
theorem dX7_copyElements_20 : decode cX7_copyElements 20 = .ok (.aload_n 0, 1) := by decide +kernel
theorem dX7_copyElements_21 : decode cX7_copyElements 21 = .ok (.getfield 18, 3) := by decide +kernel
theorem dX7_copyElements_24 : decode cX7_copyElements 24 = .ok (.iload_n 1, 1) := by decide +kernel
theorem dX7_copyElements_25 : decode cX7_copyElements 25 = .ok (.aload_n 2, 1) := by decide +kernel
theorem dX7_copyElements_26 : decode cX7_copyElements 26 = .ok (.getfield 18, 3) := by decide +kernel
theorem dX7_copyElements_29 : decode cX7_copyElements 29 = .ok (.iload_n 3, 1) := by decide +kernel
theorem dX7_copyElements_30 : decode cX7_copyElements 30 = .ok (.iload 4, 2) := by decide +kernel
theorem dX7_copyElements_32 : decode cX7_copyElements 32 = .ok (.invokestatic 45, 3) := by decide +kernel
theorem dX7_copyElements_35 : decode cX7_copyElements 35 = .ok (.return_, 1) := by decide +kernel
theorem dX7_isPress_0 : decode cX7_isPress 0 = .ok (.aload_n 0, 1) := by decide +kernel
theorem dX7_isPress_1 : decode cX7_isPress 1 = .ok (.iload_n 1, 1) := by decide +kernel
theorem dX7_isPress_2 : decode cX7_isPress 2 = .ok (.invokevirtual 51, 3) := by decide +kernel
theorem dX7_isPress_5 : decode cX7_isPress 5 = .ok (.istore_n 2, 1) := by decide +kernel
theorem dX7_isPress_6 : decode cX7_isPress 6 = .ok (.aload_n 0, 1) := by decide +kernel
theorem dX7_isPress_7 : decode cX7_isPress 7 = .ok (.iload_n 1, 1) := by decide +kernel
theorem dX7_isPress_8 : decode cX7_isPress 8 = .ok (.invokevirtual 29, 3) := by decide +kernel
theorem dX7_isPress_11 : decode cX7_isPress 11 = .ok (.ifCond .eq 16, 3) := by decide +kernel
theorem dX7_isPress_14 : decode cX7_isPress 14 = .ok (.iload_n 2, 1) := by decide +kernel
theorem dX7_isPress_15 : decode cX7_isPress 15 = .ok (.ifCond .eq 8, 3) := by decide +kernel
theorem dX7_isPress_18 : decode cX7_isPress 18 = .ok (.iload_n 2, 1) := by decide +kernel
theorem dX7_isPress_19 : decode cX7_isPress 19 = .ok (.iconst 1, 1) := by decide +kernel
theorem dX7_isPress_20 : decode cX7_isPress 20 = .ok (.if_icmp .ne 7, 3) := by decide +kernel
theorem dX7_isPress_23 : decode cX7_isPress 23 = .ok (.iconst 1, 1) := by decide +kernel
theorem dX7_isPress_24 : decode cX7_isPress 24 = .ok (.goto 4, 3) := by decide +kernel
theorem dX7_isPress_27 : decode cX7_isPress 27 = .ok (.iconst 0, 1) := by decide +kernel
theorem dX7_isPress_28 : decode cX7_isPress 28 = .ok (.ireturn, 1) := by decide +kernel
theorem dX7_countPresses_0 : decode cX7_countPresses 0 = .ok (.iconst 0, 1) := by decide +kernel
theorem dX7_countPresses_1 : decode cX7_countPresses 1 = .ok (.istore_n 3, 1) := by decide +kernel
theorem dX7_countPresses_2 : decode cX7_countPresses 2 = .ok (.iconst 0, 1) := by decide +kernel
theorem dX7_countPresses_3 : decode cX7_countPresses 3 = .ok (.istore 4, 2) := by decide +kernel
theorem dX7_countPresses_5 : decode cX7_countPresses 5 = .ok (.iload 4, 2) := by decide +kernel
theorem dX7_countPresses_7 : decode cX7_countPresses 7 = .ok (.iload_n 2, 1) := by decide +kernel
theorem dX7_countPresses_8 : decode cX7_countPresses 8 = .ok (.if_icmp .ge 23, 3) := by decide +kernel
theorem dX7_countPresses_11 : decode cX7_countPresses 11 = .ok (.aload_n 0, 1) := by decide +kernel
theorem dX7_countPresses_12 : decode cX7_countPresses 12 = .ok (.iload_n 1, 1) := by decide +kernel
theorem dX7_countPresses_13 : decode cX7_countPresses 13 = .ok (.iload 4, 2) := by decide +kernel
theorem dX7_countPresses_15 : decode cX7_countPresses 15 = .ok (.iadd, 1) := by decide +kernel
theorem dX7_countPresses_16 : decode cX7_countPresses 16 = .ok (.invokevirtual 55, 3) := by decide +kernel
theorem dX7_countPresses_19 : decode cX7_countPresses 19 = .ok (.ifCond .eq 6, 3) := by decide +kernel
theorem dX7_countPresses_22 : decode cX7_countPresses 22 = .ok (.iinc 3 1, 3) := by decide +kernel
theorem dX7_countPresses_25 : decode cX7_countPresses 25 = .ok (.iinc 4 1, 3) := by decide +kernel
theorem dX7_countPresses_28 : decode cX7_countPresses 28 = .ok (.goto (-23), 3) := by decide +kernel
theorem dX7_countPresses_31 : decode cX7_countPresses 31 = .ok (.iload_n 3, 1) := by decide +kernel
theorem dX7_countPresses_32 : decode cX7_countPresses 32 = .ok (.ireturn, 1) := by decide +kernel
theorem dX8_init_0 : decode cX8_init 0 = .ok (.aload_n 0, 1) := by decide +kernel
theorem dX8_init_1 : decode cX8_init 1 = .ok (.invokespecial 3, 3) := by decide +kernel
theorem dX8_init_4 : decode cX8_init 4 = .ok (.return_, 1) := by decide +kernel
theorem dX8_begin_0 : decode cX8_begin 0 = .ok (.aload_n 0, 1) := by decide +kernel
theorem dX8_begin_1 : decode cX8_begin 1 = .ok (.iload_n 1, 1) := by decide +kernel
theorem dX8_begin_2 : decode cX8_begin 2 = .ok (.putfield 9, 3) := by decide +kernel
theorem dX8_begin_5 : decode cX8_begin 5 = .ok (.aload_n 0, 1) := by decide +kernel
theorem dX8_begin_6 : decode cX8_begin 6 = .ok (.iload_n 2, 1) := by decide +kernel
theorem dX8_begin_7 : decode cX8_begin 7 = .ok (.putfield 15, 3) := by decide +kernel
theorem dX8_begin_10 : decode cX8_begin 10 = .ok (.aload_n 0, 1) := by decide +kernel
theorem dX8_begin_11 : decode cX8_begin 11 = .ok (.iload_n 3, 1) := by decide +kernel
theorem dX8_begin_12 : decode cX8_begin 12 = .ok (.putfield 18, 3) := by decide +kernel
theorem dX8_begin_15 : decode cX8_begin 15 = .ok (.aload_n 0, 1) := by decide +kernel
theorem dX8_begin_16 : decode cX8_begin 16 = .ok (.iload 4, 2) := by decide +kernel
theorem dX8_begin_18 : decode cX8_begin 18 = .ok (.putfield 21, 3) := by decide +kernel
theorem dX8_begin_21 : decode cX8_begin 21 = .ok (.aload_n 0, 1) := by decide +kernel
theorem dX8_begin_22 : decode cX8_begin 22 = .ok (.iconst 0, 1) := by decide +kernel
theorem dX8_begin_23 : decode cX8_begin 23 = .ok (.putfield 24, 3) := by decide +kernel
theorem dX8_begin_26 : decode cX8_begin 26 = .ok (.aload_n 0, 1) := by decide +kernel
theorem dX8_begin_27 : decode cX8_begin 27 = .ok (.bipush 23, 2) := by decide +kernel
theorem dX8_begin_29 : decode cX8_begin 29 = .ok (.putfield 27, 3) := by decide +kernel
theorem dX8_begin_32 : decode cX8_begin 32 = .ok (.aload_n 0, 1) := by decide +kernel
theorem dX8_begin_33 : decode cX8_begin 33 = .ok (.iconst 0, 1) := by decide +kernel
theorem dX8_begin_34 : decode cX8_begin 34 = .ok (.putfield 30, 3) := by decide +kernel
theorem dX8_begin_37 : decode cX8_begin 37 = .ok (.aload_n 0, 1) := by decide +kernel
theorem dX8_begin_38 : decode cX8_begin 38 = .ok (.iconst 0, 1) := by decide +kernel
theorem dX8_begin_39 : decode cX8_begin 39 = .ok (.putfield 33, 3) := by decide +kernel
theorem dX8_begin_42 : decode cX8_begin 42 = .ok (.return_, 1) := by decide +kernel
theorem dX8_becomeLike_0 : decode cX8_becomeLike 0 = .ok (.aload_n 0, 1) := by decide +kernel
theorem dX8_becomeLike_1 : decode cX8_becomeLike 1 = .ok (.aload_n 1, 1) := by decide +kernel
theorem dX8_becomeLike_2 : decode cX8_becomeLike 2 = .ok (.getfield 9, 3) := by decide +kernel
theorem dX8_becomeLike_5 : decode cX8_becomeLike 5 = .ok (.putfield 9, 3) := by decide +kernel
theorem dX8_becomeLike_8 : decode cX8_becomeLike 8 = .ok (.aload_n 0, 1) := by decide +kernel
theorem dX8_becomeLike_9 : decode cX8_becomeLike 9 = .ok (.aload_n 1, 1) := by decide +kernel
theorem dX8_becomeLike_10 : decode cX8_becomeLike 10 = .ok (.getfield 15, 3) := by decide +kernel
theorem dX8_becomeLike_13 : decode cX8_becomeLike 13 = .ok (.putfield 15, 3) := by decide +kernel
theorem dX8_becomeLike_16 : decode cX8_becomeLike 16 = .ok (.aload_n 0, 1) := by decide +kernel
theorem dX8_becomeLike_17 : decode cX8_becomeLike 17 = .ok (.aload_n 1, 1) := by decide +kernel
theorem dX8_becomeLike_18 : decode cX8_becomeLike 18 = .ok (.getfield 18, 3) := by decide +kernel
theorem dX8_becomeLike_21 : decode cX8_becomeLike 21 = .ok (.putfield 18, 3) := by decide +kernel
theorem dX8_becomeLike_24 : decode cX8_becomeLike 24 = .ok (.aload_n 0, 1) := by decide +kernel
theorem dX8_becomeLike_25 : decode cX8_becomeLike 25 = .ok (.aload_n 1, 1) := by decide +kernel
theorem dX8_becomeLike_26 : decode cX8_becomeLike 26 = .ok (.getfield 21, 3) := by decide +kernel
theorem dX8_becomeLike_29 : decode cX8_becomeLike 29 = .ok (.putfield 21, 3) := by decide +kernel
theorem dX8_becomeLike_32 : decode cX8_becomeLike 32 = .ok (.aload_n 0, 1) := by decide +kernel
theorem dX8_becomeLike_33 : decode cX8_becomeLike 33 = .ok (.aload_n 1, 1) := by decide +kernel
theorem dX8_becomeLike_34 : decode cX8_becomeLike 34 = .ok (.getfield 24, 3) := by decide +kernel
theorem dX8_becomeLike_37 : decode cX8_becomeLike 37 = .ok (.putfield 24, 3) := by decide +kernel
theorem dX8_becomeLike_40 : decode cX8_becomeLike 40 = .ok (.aload_n 0, 1) := by decide +kernel
theorem dX8_becomeLike_41 : decode cX8_becomeLike 41 = .ok (.aload_n 1, 1) := by decide +kernel
theorem dX8_becomeLike_42 : decode cX8_becomeLike 42 = .ok (.getfield 27, 3) := by decide +kernel
theorem dX8_becomeLike_45 : decode cX8_becomeLike 45 = .ok (.putfield 27, 3) := by decide +kernel
theorem dX8_becomeLike_48 : decode cX8_becomeLike 48 = .ok (.aload_n 0, 1) := by decide +kernel
theorem dX8_becomeLike_49 : decode cX8_becomeLike 49 = .ok (.aload_n 1, 1) := by decide +kernel
theorem dX8_becomeLike_50 : decode cX8_becomeLike 50 = .ok (.getfield 30, 3) := by decide +kernel
theorem dX8_becomeLike_53 : decode cX8_becomeLike 53 = .ok (.putfield 30, 3) := by decide +kernel
theorem dX8_becomeLike_56 : decode cX8_becomeLike 56 = .ok (.aload_n 0, 1) := by decide +kernel
theorem dX8_becomeLike_57 : decode cX8_becomeLike 57 = .ok (.aload_n 1, 1) := by decide +kernel
theorem dX8_becomeLike_58 : decode cX8_becomeLike 58 = .ok (.getfield 33, 3) := by decide +kernel
theorem dX8_becomeLike_61 : decode cX8_becomeLike 61 = .ok (.putfield 33, 3) := by decide +kernel
theorem dX8_becomeLike_64 : decode cX8_becomeLike 64 = .ok (.return_, 1) := by decide +kernel
theorem dX8_isFan_0 : decode cX8_isFan 0 = .ok (.aload_n 0, 1) := by decide +kernel
theorem dX8_isFan_1 : decode cX8_isFan 1 = .ok (.getfield 9, 3) := by decide +kernel
theorem dX8_isFan_4 : decode cX8_isFan 4 = .ok (.iconst 1, 1) := by decide +kernel
theorem dX8_isFan_5 : decode cX8_isFan 5 = .ok (.if_icmp .eq 12, 3) := by decide +kernel
theorem dX8_isFan_8 : decode cX8_isFan 8 = .ok (.aload_n 0, 1) := by decide +kernel
theorem dX8_isFan_9 : decode cX8_isFan 9 = .ok (.getfield 9, 3) := by decide +kernel
theorem dX8_isFan_12 : decode cX8_isFan 12 = .ok (.bipush 7, 2) := by decide +kernel
theorem dX8_isFan_14 : decode cX8_isFan 14 = .ok (.if_icmp .ne 7, 3) := by decide +kernel
theorem dX8_isFan_17 : decode cX8_isFan 17 = .ok (.iconst 1, 1) := by decide +kernel
theorem dX8_isFan_18 : decode cX8_isFan 18 = .ok (.goto 4, 3) := by decide +kernel
theorem dX8_isFan_21 : decode cX8_isFan 21 = .ok (.iconst 0, 1) := by decide +kernel
theorem dX8_isFan_22 : decode cX8_isFan 22 = .ok (.ireturn, 1) := by decide +kernel
theorem dX8_isAirborne_0 : decode cX8_isAirborne 0 = .ok (.aload_n 0, 1) := by decide +kernel
theorem dX8_isAirborne_1 : decode cX8_isAirborne 1 = .ok (.getfield 9, 3) := by decide +kernel
theorem dX8_isAirborne_4 : decode cX8_isAirborne 4 = .ok (.iconst 4, 1) := by decide +kernel
theorem dX8_isAirborne_5 : decode cX8_isAirborne 5 = .ok (.if_icmp .eq 15, 3) := by decide +kernel
theorem dX8_isAirborne_8 : decode cX8_isAirborne 8 = .ok (.aload_n 0, 1) := by decide +kernel
theorem dX8_isAirborne_9 : decode cX8_isAirborne 9 = .ok (.getfield 9, 3) := by decide +kernel
theorem dX8_isAirborne_12 : decode cX8_isAirborne 12 = .ok (.iconst 5, 1) := by decide +kernel
theorem dX8_isAirborne_13 : decode cX8_isAirborne 13 = .ok (.if_icmp .eq 7, 3) := by decide +kernel
theorem dX8_isAirborne_16 : decode cX8_isAirborne 16 = .ok (.iconst 1, 1) := by decide +kernel
theorem dX8_isAirborne_17 : decode cX8_isAirborne 17 = .ok (.goto 4, 3) := by decide +kernel
theorem dX8_isAirborne_20 : decode cX8_isAirborne 20 = .ok (.iconst 0, 1) := by decide +kernel
theorem dX8_isAirborne_21 : decode cX8_isAirborne 21 = .ok (.ireturn, 1) := by decide +kernel
theorem dX8_isOfKind_0 : decode cX8_isOfKind 0 = .ok (.iload_n 1, 1) := by decide +kernel
theorem dX8_isOfKind_1 : decode cX8_isOfKind 1 = .ok (.ifCond .eq 23, 3) := by decide +kernel
theorem dX8_isOfKind_4 : decode cX8_isOfKind 4 = .ok (.iload_n 1, 1) := by decide +kernel
theorem dX8_isOfKind_5 : decode cX8_isOfKind 5 = .ok (.aload_n 0, 1) := by decide +kernel
theorem dX8_isOfKind_6 : decode cX8_isOfKind 6 = .ok (.getfield 9, 3) := by decide +kernel
theorem dX8_isOfKind_9 : decode cX8_isOfKind 9 = .ok (.if_icmp .eq 15, 3) := by decide +kernel
theorem dX8_isOfKind_12 : decode cX8_isOfKind 12 = .ok (.iload_n 1, 1) := by decide +kernel
theorem dX8_isOfKind_13 : decode cX8_isOfKind 13 = .ok (.iconst 1, 1) := by decide +kernel
theorem dX8_isOfKind_14 : decode cX8_isOfKind 14 = .ok (.if_icmp .ne 14, 3) := by decide +kernel
theorem dX8_isOfKind_17 : decode cX8_isOfKind 17 = .ok (.aload_n 0, 1) := by decide +kernel
theorem dX8_isOfKind_18 : decode cX8_isOfKind 18 = .ok (.invokevirtual 36, 3) := by decide +kernel
theorem dX8_isOfKind_21 : decode cX8_isOfKind 21 = .ok (.ifCond .eq 7, 3) := by decide +kernel
theorem dX8_isOfKind_24 : decode cX8_isOfKind 24 = .ok (.iconst 1, 1) := by decide +kernel
theorem dX8_isOfKind_25 : decode cX8_isOfKind 25 = .ok (.goto 4, 3) := by decide +kernel
theorem dX8_isOfKind_28 : decode cX8_isOfKind 28 = .ok (.iconst 0, 1) := by decide +kernel
theorem dX8_isOfKind_29 : decode cX8_isOfKind 29 = .ok (.ireturn, 1) := by decide +kernel
theorem dX8_runsAt_0 : decode cX8_runsAt 0 = .ok (.aload_n 0, 1) := by decide +kernel
theorem dX8_runsAt_1 : decode cX8_runsAt 1 = .ok (.getfield 24, 3) := by decide +kernel
theorem dX8_runsAt_4 : decode cX8_runsAt 4 = .ok (.aload_n 0, 1) := by decide +kernel
theorem dX8_runsAt_5 : decode cX8_runsAt 5 = .ok (.getfield 27, 3) := by decide +kernel
theorem dX8_runsAt_8 : decode cX8_runsAt 8 = .ok (.if_icmp .le 25, 3) := by decide +kernel
theorem dX8_runsAt_11 : decode cX8_runsAt 11 = .ok (.iload_n 1, 1) := by decide +kernel
theorem dX8_runsAt_12 : decode cX8_runsAt 12 = .ok (.aload_n 0, 1) := by decide +kernel
theorem dX8_runsAt_13 : decode cX8_runsAt 13 = .ok (.getfield 24, 3) := by decide +kernel
theorem dX8_runsAt_16 : decode cX8_runsAt 16 = .ok (.if_icmp .ge 11, 3) := by decide +kernel
theorem dX8_runsAt_19 : decode cX8_runsAt 19 = .ok (.iload_n 1, 1) := by decide +kernel
theorem dX8_runsAt_20 : decode cX8_runsAt 20 = .ok (.aload_n 0, 1) := by decide +kernel
theorem dX8_runsAt_21 : decode cX8_runsAt 21 = .ok (.getfield 27, 3) := by decide +kernel
theorem dX8_runsAt_24 : decode cX8_runsAt 24 = .ok (.if_icmp .gt 7, 3) := by decide +kernel
theorem dX8_runsAt_27 : decode cX8_runsAt 27 = .ok (.iconst 1, 1) := by decide +kernel
theorem dX8_runsAt_28 : decode cX8_runsAt 28 = .ok (.goto 4, 3) := by decide +kernel
theorem dX8_runsAt_31 : decode cX8_runsAt 31 = .ok (.iconst 0, 1) := by decide +kernel
theorem dX8_runsAt_32 : decode cX8_runsAt 32 = .ok (.ireturn, 1) := by decide +kernel
theorem dX8_runsAt_33 : decode cX8_runsAt 33 = .ok (.iload_n 1, 1) := by decide +kernel
theorem dX8_runsAt_34 : decode cX8_runsAt 34 = .ok (.aload_n 0, 1) := by decide +kernel
theorem dX8_runsAt_35 : decode cX8_runsAt 35 = .ok (.getfield 24, 3) := by decide +kernel
theorem dX8_runsAt_38 : decode cX8_runsAt 38 = .ok (.if_icmp .lt 15, 3) := by decide +kernel
theorem dX8_runsAt_41 : decode cX8_runsAt 41 = .ok (.iload_n 1, 1) := by decide +kernel
theorem dX8_runsAt_42 : decode cX8_runsAt 42 = .ok (.aload_n 0, 1) := by decide +kernel
theorem dX8_runsAt_43 : decode cX8_runsAt 43 = .ok (.getfield 27, 3) := by decide +kernel
theorem dX8_runsAt_46 : decode cX8_runsAt 46 = .ok (.if_icmp .gt 7, 3) := by decide +kernel
theorem dX8_runsAt_49 : decode cX8_runsAt 49 = .ok (.iconst 1, 1) := by decide +kernel
theorem dX8_runsAt_50 : decode cX8_runsAt 50 = .ok (.goto 4, 3) := by decide +kernel
theorem dX8_runsAt_53 : decode cX8_runsAt 53 = .ok (.iconst 0, 1) := by decide +kernel
theorem dX8_runsAt_54 : decode cX8_runsAt 54 = .ok (.ireturn, 1) := by decide +kernel
theorem dX8_hoursAsNumber_0 : decode cX8_hoursAsNumber 0 = .ok (.bipush 100, 2) := by decide +kernel
theorem dX8_hoursAsNumber_2 : decode cX8_hoursAsNumber 2 = .ok (.aload_n 0, 1) := by decide +kernel
theorem dX8_hoursAsNumber_3 : decode cX8_hoursAsNumber 3 = .ok (.getfield 24, 3) := by decide +kernel
theorem dX8_hoursAsNumber_6 : decode cX8_hoursAsNumber 6 = .ok (.imul, 1) := by decide +kernel
theorem dX8_hoursAsNumber_7 : decode cX8_hoursAsNumber 7 = .ok (.aload_n 0, 1) := by decide +kernel
theorem dX8_hoursAsNumber_8 : decode cX8_hoursAsNumber 8 = .ok (.getfield 27, 3) := by decide +kernel
theorem dX8_hoursAsNumber_11 : decode cX8_hoursAsNumber 11 = .ok (.iadd, 1) := by decide +kernel
theorem dX8_hoursAsNumber_12 : decode cX8_hoursAsNumber 12 = .ok (.ireturn, 1) := by decide +kernel
theorem dX8_levelWith_0 : decode cX8_levelWith 0 = .ok (.iconst 0, 1) := by decide +kernel
theorem dX8_levelWith_1 : decode cX8_levelWith 1 = .ok (.aload_n 0, 1) := by decide +kernel
theorem dX8_levelWith_2 : decode cX8_levelWith 2 = .ok (.getfield 21, 3) := by decide +kernel
theorem dX8_levelWith_5 : decode cX8_levelWith 5 = .ok (.iload_n 1, 1) := by decide +kernel
theorem dX8_levelWith_6 : decode cX8_levelWith 6 = .ok (.iload_n 2, 1) := by decide +kernel
theorem dX8_levelWith_7 : decode cX8_levelWith 7 = .ok (.imul, 1) := by decide +kernel
theorem dX8_levelWith_8 : decode cX8_levelWith 8 = .ok (.isub, 1) := by decide +kernel
theorem dX8_levelWith_9 : decode cX8_levelWith 9 = .ok (.invokestatic 40, 3) := by decide +kernel
theorem dX8_levelWith_12 : decode cX8_levelWith 12 = .ok (.istore 4, 2) := by decide +kernel
theorem dX8_levelWith_14 : decode cX8_levelWith 14 = .ok (.aload_n 0, 1) := by decide +kernel
theorem dX8_levelWith_15 : decode cX8_levelWith 15 = .ok (.getfield 9, 3) := by decide +kernel
theorem dX8_levelWith_18 : decode cX8_levelWith 18 = .ok (.tableswitch 93 2 7 #[38, 53, 93, 93, 67, 78], 38) := by decide +kernel
theorem dX8_levelWith_56 : decode cX8_levelWith 56 = .ok (.iconst 0, 1) := by decide +kernel
theorem dX8_levelWith_57 : decode cX8_levelWith 57 = .ok (.aload_n 0, 1) := by decide +kernel
theorem dX8_levelWith_58 : decode cX8_levelWith 58 = .ok (.getfield 21, 3) := by decide +kernel
theorem dX8_levelWith_61 : decode cX8_levelWith 61 = .ok (.iload_n 1, 1) := by decide +kernel
theorem dX8_levelWith_62 : decode cX8_levelWith 62 = .ok (.iload_n 2, 1) := by decide +kernel
theorem dX8_levelWith_63 : decode cX8_levelWith 63 = .ok (.imul, 1) := by decide +kernel
theorem dX8_levelWith_64 : decode cX8_levelWith 64 = .ok (.iconst 4, 1) := by decide +kernel
theorem dX8_levelWith_65 : decode cX8_levelWith 65 = .ok (.idiv, 1) := by decide +kernel
theorem dX8_levelWith_66 : decode cX8_levelWith 66 = .ok (.isub, 1) := by decide +kernel
theorem dX8_levelWith_67 : decode cX8_levelWith 67 = .ok (.invokestatic 40, 3) := by decide +kernel
theorem dX8_levelWith_70 : decode cX8_levelWith 70 = .ok (.ireturn, 1) := by decide +kernel
theorem dX8_levelWith_71 : decode cX8_levelWith 71 = .ok (.iload_n 3, 1) := by decide +kernel
theorem dX8_levelWith_72 : decode cX8_levelWith 72 = .ok (.ifCond .eq 10, 3) := by decide +kernel
theorem dX8_levelWith_75 : decode cX8_levelWith 75 = .ok (.iconst 2, 1) := by decide +kernel
theorem dX8_levelWith_76 : decode cX8_levelWith 76 = .ok (.iload 4, 2) := by decide +kernel
theorem dX8_levelWith_78 : decode cX8_levelWith 78 = .ok (.imul, 1) := by decide +kernel
theorem dX8_levelWith_79 : decode cX8_levelWith 79 = .ok (.goto 5, 3) := by decide +kernel
theorem dX8_levelWith_82 : decode cX8_levelWith 82 = .ok (.iload 4, 2) := by decide +kernel
theorem dX8_levelWith_84 : decode cX8_levelWith 84 = .ok (.ireturn, 1) := by decide +kernel
theorem dX8_levelWith_85 : decode cX8_levelWith 85 = .ok (.iconst 0, 1) := by decide +kernel
theorem dX8_levelWith_86 : decode cX8_levelWith 86 = .ok (.aload_n 0, 1) := by decide +kernel
theorem dX8_levelWith_87 : decode cX8_levelWith 87 = .ok (.getfield 21, 3) := by decide +kernel
theorem dX8_levelWith_90 : decode cX8_levelWith 90 = .ok (.iload_n 1, 1) := by decide +kernel
theorem dX8_levelWith_91 : decode cX8_levelWith 91 = .ok (.isub, 1) := by decide +kernel
theorem dX8_levelWith_92 : decode cX8_levelWith 92 = .ok (.invokestatic 40, 3) := by decide +kernel
theorem dX8_levelWith_95 : decode cX8_levelWith 95 = .ok (.ireturn, 1) := by decide +kernel
theorem dX8_levelWith_96 : decode cX8_levelWith 96 = .ok (.iload 4, 2) := by decide +kernel
theorem dX8_levelWith_98 : decode cX8_levelWith 98 = .ok (.ifCond .le 11, 3) := by decide +kernel
theorem dX8_levelWith_101 : decode cX8_levelWith 101 = .ok (.iload 4, 2) := by decide +kernel
theorem dX8_levelWith_103 : decode cX8_levelWith 103 = .ok (.bipush 6, 2) := by decide +kernel
theorem dX8_levelWith_105 : decode cX8_levelWith 105 = .ok (.iadd, 1) := by decide +kernel
theorem dX8_levelWith_106 : decode cX8_levelWith 106 = .ok (.goto 4, 3) := by decide +kernel
theorem dX8_levelWith_109 : decode cX8_levelWith 109 = .ok (.iconst 0, 1) := by decide +kernel
theorem dX8_levelWith_110 : decode cX8_levelWith 110 = .ok (.ireturn, 1) := by decide +kernel
theorem dX8_levelWith_111 : decode cX8_levelWith 111 = .ok (.iload 4, 2) := by decide +kernel
theorem dX8_levelWith_113 : decode cX8_levelWith 113 = .ok (.ireturn, 1) := by decide +kernel
theorem dX9_init_0 : decode cX9_init 0 = .ok (.aload_n 0, 1) := by decide +kernel
theorem dX9_init_1 : decode cX9_init 1 = .ok (.invokespecial 3, 3) := by decide +kernel
theorem dX9_init_4 : decode cX9_init 4 = .ok (.aload_n 0, 1) := by decide +kernel
theorem dX9_init_5 : decode cX9_init 5 = .ok (.iconst 0, 1) := by decide +kernel
theorem dX9_init_6 : decode cX9_init 6 = .ok (.putfield 9, 3) := by decide +kernel
theorem dX9_init_9 : decode cX9_init 9 = .ok (.aload_n 0, 1) := by decide +kernel
theorem dX9_init_10 : decode cX9_init 10 = .ok (.iconst 0, 1) := by decide +kernel
theorem dX9_init_11 : decode cX9_init 11 = .ok (.putfield 15, 3) := by decide +kernel
theorem dX9_init_14 : decode cX9_init 14 = .ok (.aload_n 0, 1) := by decide +kernel
theorem dX9_init_15 : decode cX9_init 15 = .ok (.iconst 0, 1) := by decide +kernel
theorem dX9_init_16 : decode cX9_init 16 = .ok (.putfield 18, 3) := by decide +kernel
theorem dX9_init_19 : decode cX9_init 19 = .ok (.aload_n 0, 1) := by decide +kernel
theorem dX9_init_20 : decode cX9_init 20 = .ok (.iconst 0, 1) := by decide +kernel
theorem dX9_init_21 : decode cX9_init 21 = .ok (.putfield 21, 3) := by decide +kernel
theorem dX9_init_24 : decode cX9_init 24 = .ok (.aload_n 0, 1) := by decide +kernel
theorem dX9_init_25 : decode cX9_init 25 = .ok (.iconst (-1), 1) := by decide +kernel
theorem dX9_init_26 : decode cX9_init 26 = .ok (.putfield 24, 3) := by decide +kernel
theorem dX9_init_29 : decode cX9_init 29 = .ok (.aload_n 0, 1) := by decide +kernel
theorem dX9_init_30 : decode cX9_init 30 = .ok (.iconst 0, 1) := by decide +kernel
theorem dX9_init_31 : decode cX9_init 31 = .ok (.putfield 27, 3) := by decide +kernel
theorem dX9_init_34 : decode cX9_init 34 = .ok (.aload_n 0, 1) := by decide +kernel
theorem dX9_init_35 : decode cX9_init 35 = .ok (.bipush 12, 2) := by decide +kernel
theorem dX9_init_37 : decode cX9_init 37 = .ok (.anewarray 30, 3) := by decide +kernel
theorem dX9_init_40 : decode cX9_init 40 = .ok (.putfield 32, 3) := by decide +kernel
theorem dX9_init_43 : decode cX9_init 43 = .ok (.aload_n 0, 1) := by decide +kernel
theorem dX9_init_44 : decode cX9_init 44 = .ok (.bipush 14, 2) := by decide +kernel
theorem dX9_init_46 : decode cX9_init 46 = .ok (.anewarray 36, 3) := by decide +kernel
theorem dX9_init_49 : decode cX9_init 49 = .ok (.putfield 38, 3) := by decide +kernel
theorem dX9_init_52 : decode cX9_init 52 = .ok (.aload_n 0, 1) := by decide +kernel
theorem dX9_init_53 : decode cX9_init 53 = .ok (.bipush 8, 2) := by decide +kernel
theorem dX9_init_55 : decode cX9_init 55 = .ok (.anewarray 42, 3) := by decide +kernel
theorem dX9_init_58 : decode cX9_init 58 = .ok (.putfield 44, 3) := by decide +kernel
theorem dX9_init_61 : decode cX9_init 61 = .ok (.aload_n 0, 1) := by decide +kernel
theorem dX9_init_62 : decode cX9_init 62 = .ok (.new 48, 3) := by decide +kernel
theorem dX9_init_65 : decode cX9_init 65 = .ok (.dup, 1) := by decide +kernel
theorem dX9_init_66 : decode cX9_init 66 = .ok (.invokespecial 50, 3) := by decide +kernel
theorem dX9_init_69 : decode cX9_init 69 = .ok (.putfield 51, 3) := by decide +kernel
theorem dX9_init_72 : decode cX9_init 72 = .ok (.aload_n 0, 1) := by decide +kernel
theorem dX9_init_73 : decode cX9_init 73 = .ok (.new 55, 3) := by decide +kernel
theorem dX9_init_76 : decode cX9_init 76 = .ok (.dup, 1) := by decide +kernel
theorem dX9_init_77 : decode cX9_init 77 = .ok (.invokespecial 57, 3) := by decide +kernel
theorem dX9_init_80 : decode cX9_init 80 = .ok (.putfield 58, 3) := by decide +kernel
theorem dX9_init_83 : decode cX9_init 83 = .ok (.aload_n 0, 1) := by decide +kernel
theorem dX9_init_84 : decode cX9_init 84 = .ok (.bipush 64, 2) := by decide +kernel
theorem dX9_init_86 : decode cX9_init 86 = .ok (.newarray .int, 2) := by decide +kernel
theorem dX9_init_88 : decode cX9_init 88 = .ok (.putfield 62, 3) := by decide +kernel
theorem dX9_init_91 : decode cX9_init 91 = .ok (.aload_n 0, 1) := by decide +kernel
theorem dX9_init_92 : decode cX9_init 92 = .ok (.bipush 10, 2) := by decide +kernel
theorem dX9_init_94 : decode cX9_init 94 = .ok (.newarray .int, 2) := by decide +kernel
theorem dX9_init_96 : decode cX9_init 96 = .ok (.putfield 66, 3) := by decide +kernel
theorem dX9_init_99 : decode cX9_init 99 = .ok (.aload_n 0, 1) := by decide +kernel
theorem dX9_init_100 : decode cX9_init 100 = .ok (.bipush 6, 2) := by decide +kernel
theorem dX9_init_102 : decode cX9_init 102 = .ok (.newarray .int, 2) := by decide +kernel
theorem dX9_init_104 : decode cX9_init 104 = .ok (.putfield 69, 3) := by decide +kernel
theorem dX9_init_107 : decode cX9_init 107 = .ok (.iconst 0, 1) := by decide +kernel
theorem dX9_init_108 : decode cX9_init 108 = .ok (.istore_n 1, 1) := by decide +kernel
theorem dX9_init_109 : decode cX9_init 109 = .ok (.iload_n 1, 1) := by decide +kernel
theorem dX9_init_110 : decode cX9_init 110 = .ok (.bipush 12, 2) := by decide +kernel
theorem dX9_init_112 : decode cX9_init 112 = .ok (.if_icmp .ge 22, 3) := by decide +kernel
theorem dX9_init_115 : decode cX9_init 115 = .ok (.aload_n 0, 1) := by decide +kernel
theorem dX9_init_116 : decode cX9_init 116 = .ok (.getfield 32, 3) := by decide +kernel
theorem dX9_init_119 : decode cX9_init 119 = .ok (.iload_n 1, 1) := by decide +kernel
theorem dX9_init_120 : decode cX9_init 120 = .ok (.new 30, 3) := by decide +kernel
theorem dX9_init_123 : decode cX9_init 123 = .ok (.dup, 1) := by decide +kernel
theorem dX9_init_124 : decode cX9_init 124 = .ok (.invokespecial 72, 3) := by decide +kernel
theorem dX9_init_127 : decode cX9_init 127 = .ok (.aastore, 1) := by decide +kernel
theorem dX9_init_128 : decode cX9_init 128 = .ok (.iinc 1 1, 3) := by decide +kernel
theorem dX9_init_131 : decode cX9_init 131 = .ok (.goto (-22), 3) := by decide +kernel
theorem dX9_init_134 : decode cX9_init 134 = .ok (.iconst 0, 1) := by decide +kernel
theorem dX9_init_135 : decode cX9_init 135 = .ok (.istore_n 1, 1) := by decide +kernel
theorem dX9_init_136 : decode cX9_init 136 = .ok (.iload_n 1, 1) := by decide +kernel
theorem dX9_init_137 : decode cX9_init 137 = .ok (.bipush 14, 2) := by decide +kernel
theorem dX9_init_139 : decode cX9_init 139 = .ok (.if_icmp .ge 22, 3) := by decide +kernel
theorem dX9_init_142 : decode cX9_init 142 = .ok (.aload_n 0, 1) := by decide +kernel
theorem dX9_init_143 : decode cX9_init 143 = .ok (.getfield 38, 3) := by decide +kernel
theorem dX9_init_146 : decode cX9_init 146 = .ok (.iload_n 1, 1) := by decide +kernel
theorem dX9_init_147 : decode cX9_init 147 = .ok (.new 36, 3) := by decide +kernel
theorem dX9_init_150 : decode cX9_init 150 = .ok (.dup, 1) := by decide +kernel
theorem dX9_init_151 : decode cX9_init 151 = .ok (.invokespecial 73, 3) := by decide +kernel
theorem dX9_init_154 : decode cX9_init 154 = .ok (.aastore, 1) := by decide +kernel
theorem dX9_init_155 : decode cX9_init 155 = .ok (.iinc 1 1, 3) := by decide +kernel
theorem dX9_init_158 : decode cX9_init 158 = .ok (.goto (-22), 3) := by decide +kernel
theorem dX9_init_161 : decode cX9_init 161 = .ok (.iconst 0, 1) := by decide +kernel
theorem dX9_init_162 : decode cX9_init 162 = .ok (.istore_n 1, 1) := by decide +kernel
theorem dX9_init_163 : decode cX9_init 163 = .ok (.iload_n 1, 1) := by decide +kernel
theorem dX9_init_164 : decode cX9_init 164 = .ok (.bipush 8, 2) := by decide +kernel
theorem dX9_init_166 : decode cX9_init 166 = .ok (.if_icmp .ge 22, 3) := by decide +kernel
theorem dX9_init_169 : decode cX9_init 169 = .ok (.aload_n 0, 1) := by decide +kernel
theorem dX9_init_170 : decode cX9_init 170 = .ok (.getfield 44, 3) := by decide +kernel
theorem dX9_init_173 : decode cX9_init 173 = .ok (.iload_n 1, 1) := by decide +kernel
theorem dX9_init_174 : decode cX9_init 174 = .ok (.new 42, 3) := by decide +kernel
theorem dX9_init_177 : decode cX9_init 177 = .ok (.dup, 1) := by decide +kernel
theorem dX9_init_178 : decode cX9_init 178 = .ok (.invokespecial 74, 3) := by decide +kernel
theorem dX9_init_181 : decode cX9_init 181 = .ok (.aastore, 1) := by decide +kernel
theorem dX9_init_182 : decode cX9_init 182 = .ok (.iinc 1 1, 3) := by decide +kernel
theorem dX9_init_185 : decode cX9_init 185 = .ok (.goto (-22), 3) := by decide +kernel
theorem dX9_init_188 : decode cX9_init 188 = .ok (.getstatic 75, 3) := by decide +kernel
theorem dX9_init_191 : decode cX9_init 191 = .ok (.iconst 0, 1) := by decide +kernel
theorem dX9_init_192 : decode cX9_init 192 = .ok (.aload_n 0, 1) := by decide +kernel
theorem dX9_init_193 : decode cX9_init 193 = .ok (.getfield 69, 3) := by decide +kernel
theorem dX9_init_196 : decode cX9_init 196 = .ok (.iconst 0, 1) := by decide +kernel
theorem dX9_init_197 : decode cX9_init 197 = .ok (.bipush 6, 2) := by decide +kernel
theorem dX9_init_199 : decode cX9_init 199 = .ok (.invokestatic 78, 3) := by decide +kernel
theorem dX9_init_202 : decode cX9_init 202 = .ok (.return_, 1) := by decide +kernel
theorem dX9_becomeLike_0 : decode cX9_becomeLike 0 = .ok (.aload_n 0, 1) := by decide +kernel
theorem dX9_becomeLike_1 : decode cX9_becomeLike 1 = .ok (.aload_n 1, 1) := by decide +kernel
theorem dX9_becomeLike_2 : decode cX9_becomeLike 2 = .ok (.getfield 9, 3) := by decide +kernel
theorem dX9_becomeLike_5 : decode cX9_becomeLike 5 = .ok (.putfield 9, 3) := by decide +kernel
theorem dX9_becomeLike_8 : decode cX9_becomeLike 8 = .ok (.aload_n 0, 1) := by decide +kernel
theorem dX9_becomeLike_9 : decode cX9_becomeLike 9 = .ok (.aload_n 1, 1) := by decide +kernel
theorem dX9_becomeLike_10 : decode cX9_becomeLike 10 = .ok (.getfield 15, 3) := by decide +kernel
theorem dX9_becomeLike_13 : decode cX9_becomeLike 13 = .ok (.putfield 15, 3) := by decide +kernel
theorem dX9_becomeLike_16 : decode cX9_becomeLike 16 = .ok (.aload_n 0, 1) := by decide +kernel
theorem dX9_becomeLike_17 : decode cX9_becomeLike 17 = .ok (.aload_n 1, 1) := by decide +kernel
theorem dX9_becomeLike_18 : decode cX9_becomeLike 18 = .ok (.getfield 18, 3) := by decide +kernel
theorem dX9_becomeLike_21 : decode cX9_becomeLike 21 = .ok (.putfield 18, 3) := by decide +kernel
theorem dX9_becomeLike_24 : decode cX9_becomeLike 24 = .ok (.aload_n 0, 1) := by decide +kernel
theorem dX9_becomeLike_25 : decode cX9_becomeLike 25 = .ok (.aload_n 1, 1) := by decide +kernel
theorem dX9_becomeLike_26 : decode cX9_becomeLike 26 = .ok (.getfield 21, 3) := by decide +kernel
theorem dX9_becomeLike_29 : decode cX9_becomeLike 29 = .ok (.putfield 21, 3) := by decide +kernel
theorem dX9_becomeLike_32 : decode cX9_becomeLike 32 = .ok (.aload_n 0, 1) := by decide +kernel
theorem dX9_becomeLike_33 : decode cX9_becomeLike 33 = .ok (.aload_n 1, 1) := by decide +kernel
theorem dX9_becomeLike_34 : decode cX9_becomeLike 34 = .ok (.getfield 24, 3) := by decide +kernel
theorem dX9_becomeLike_37 : decode cX9_becomeLike 37 = .ok (.putfield 24, 3) := by decide +kernel
theorem dX9_becomeLike_40 : decode cX9_becomeLike 40 = .ok (.aload_n 0, 1) := by decide +kernel
theorem dX9_becomeLike_41 : decode cX9_becomeLike 41 = .ok (.aload_n 1, 1) := by decide +kernel
theorem dX9_becomeLike_42 : decode cX9_becomeLike 42 = .ok (.getfield 27, 3) := by decide +kernel
theorem dX9_becomeLike_45 : decode cX9_becomeLike 45 = .ok (.putfield 27, 3) := by decide +kernel
theorem dX9_becomeLike_48 : decode cX9_becomeLike 48 = .ok (.iconst 0, 1) := by decide +kernel
theorem dX9_becomeLike_49 : decode cX9_becomeLike 49 = .ok (.istore_n 2, 1) := by decide +kernel
theorem dX9_becomeLike_50 : decode cX9_becomeLike 50 = .ok (.iload_n 2, 1) := by decide +kernel
theorem dX9_becomeLike_51 : decode cX9_becomeLike 51 = .ok (.aload_n 0, 1) := by decide +kernel
theorem dX9_becomeLike_52 : decode cX9_becomeLike 52 = .ok (.getfield 15, 3) := by decide +kernel
theorem dX9_becomeLike_55 : decode cX9_becomeLike 55 = .ok (.if_icmp .ge 24, 3) := by decide +kernel
theorem dX9_becomeLike_58 : decode cX9_becomeLike 58 = .ok (.aload_n 0, 1) := by decide +kernel
theorem dX9_becomeLike_59 : decode cX9_becomeLike 59 = .ok (.getfield 32, 3) := by decide +kernel
theorem dX9_becomeLike_62 : decode cX9_becomeLike 62 = .ok (.iload_n 2, 1) := by decide +kernel
theorem dX9_becomeLike_63 : decode cX9_becomeLike 63 = .ok (.aaload, 1) := by decide +kernel
theorem dX9_becomeLike_64 : decode cX9_becomeLike 64 = .ok (.aload_n 1, 1) := by decide +kernel
theorem dX9_becomeLike_65 : decode cX9_becomeLike 65 = .ok (.getfield 32, 3) := by decide +kernel
theorem dX9_becomeLike_68 : decode cX9_becomeLike 68 = .ok (.iload_n 2, 1) := by decide +kernel
theorem dX9_becomeLike_69 : decode cX9_becomeLike 69 = .ok (.aaload, 1) := by decide +kernel
theorem dX9_becomeLike_70 : decode cX9_becomeLike 70 = .ok (.invokevirtual 84, 3) := by decide +kernel
theorem dX9_becomeLike_73 : decode cX9_becomeLike 73 = .ok (.iinc 2 1, 3) := by decide +kernel
theorem dX9_becomeLike_76 : decode cX9_becomeLike 76 = .ok (.goto (-26), 3) := by decide +kernel
theorem dX9_becomeLike_79 : decode cX9_becomeLike 79 = .ok (.iconst 0, 1) := by decide +kernel
theorem dX9_becomeLike_80 : decode cX9_becomeLike 80 = .ok (.istore_n 2, 1) := by decide +kernel
theorem dX9_becomeLike_81 : decode cX9_becomeLike 81 = .ok (.iload_n 2, 1) := by decide +kernel
theorem dX9_becomeLike_82 : decode cX9_becomeLike 82 = .ok (.aload_n 0, 1) := by decide +kernel
theorem dX9_becomeLike_83 : decode cX9_becomeLike 83 = .ok (.getfield 18, 3) := by decide +kernel
theorem dX9_becomeLike_86 : decode cX9_becomeLike 86 = .ok (.if_icmp .ge 24, 3) := by decide +kernel
theorem dX9_becomeLike_89 : decode cX9_becomeLike 89 = .ok (.aload_n 0, 1) := by decide +kernel
theorem dX9_becomeLike_90 : decode cX9_becomeLike 90 = .ok (.getfield 38, 3) := by decide +kernel
theorem dX9_becomeLike_93 : decode cX9_becomeLike 93 = .ok (.iload_n 2, 1) := by decide +kernel
theorem dX9_becomeLike_94 : decode cX9_becomeLike 94 = .ok (.aaload, 1) := by decide +kernel
theorem dX9_becomeLike_95 : decode cX9_becomeLike 95 = .ok (.aload_n 1, 1) := by decide +kernel
theorem dX9_becomeLike_96 : decode cX9_becomeLike 96 = .ok (.getfield 38, 3) := by decide +kernel
theorem dX9_becomeLike_99 : decode cX9_becomeLike 99 = .ok (.iload_n 2, 1) := by decide +kernel
theorem dX9_becomeLike_100 : decode cX9_becomeLike 100 = .ok (.aaload, 1) := by decide +kernel
theorem dX9_becomeLike_101 : decode cX9_becomeLike 101 = .ok (.invokevirtual 88, 3) := by decide +kernel
theorem dX9_becomeLike_104 : decode cX9_becomeLike 104 = .ok (.iinc 2 1, 3) := by decide +kernel
theorem dX9_becomeLike_107 : decode cX9_becomeLike 107 = .ok (.goto (-26), 3) := by decide +kernel
theorem dX9_becomeLike_110 : decode cX9_becomeLike 110 = .ok (.iconst 0, 1) := by decide +kernel
theorem dX9_becomeLike_111 : decode cX9_becomeLike 111 = .ok (.istore_n 2, 1) := by decide +kernel
theorem dX9_becomeLike_112 : decode cX9_becomeLike 112 = .ok (.iload_n 2, 1) := by decide +kernel
theorem dX9_becomeLike_113 : decode cX9_becomeLike 113 = .ok (.aload_n 0, 1) := by decide +kernel
theorem dX9_becomeLike_114 : decode cX9_becomeLike 114 = .ok (.getfield 21, 3) := by decide +kernel
theorem dX9_becomeLike_117 : decode cX9_becomeLike 117 = .ok (.if_icmp .ge 24, 3) := by decide +kernel
theorem dX9_becomeLike_120 : decode cX9_becomeLike 120 = .ok (.aload_n 0, 1) := by decide +kernel
theorem dX9_becomeLike_121 : decode cX9_becomeLike 121 = .ok (.getfield 44, 3) := by decide +kernel
theorem dX9_becomeLike_124 : decode cX9_becomeLike 124 = .ok (.iload_n 2, 1) := by decide +kernel
theorem dX9_becomeLike_125 : decode cX9_becomeLike 125 = .ok (.aaload, 1) := by decide +kernel
theorem dX9_becomeLike_126 : decode cX9_becomeLike 126 = .ok (.aload_n 1, 1) := by decide +kernel
theorem dX9_becomeLike_127 : decode cX9_becomeLike 127 = .ok (.getfield 44, 3) := by decide +kernel
theorem dX9_becomeLike_130 : decode cX9_becomeLike 130 = .ok (.iload_n 2, 1) := by decide +kernel
theorem dX9_becomeLike_131 : decode cX9_becomeLike 131 = .ok (.aaload, 1) := by decide +kernel
theorem dX9_becomeLike_132 : decode cX9_becomeLike 132 = .ok (.invokevirtual 91, 3) := by decide +kernel
theorem dX9_becomeLike_135 : decode cX9_becomeLike 135 = .ok (.iinc 2 1, 3) := by decide +kernel
theorem dX9_becomeLike_138 : decode cX9_becomeLike 138 = .ok (.goto (-26), 3) := by decide +kernel
theorem dX9_becomeLike_141 : decode cX9_becomeLike 141 = .ok (.aload_n 0, 1) := by decide +kernel
theorem dX9_becomeLike_142 : decode cX9_becomeLike 142 = .ok (.getfield 51, 3) := by decide +kernel
theorem dX9_becomeLike_145 : decode cX9_becomeLike 145 = .ok (.aload_n 1, 1) := by decide +kernel
theorem dX9_becomeLike_146 : decode cX9_becomeLike 146 = .ok (.getfield 51, 3) := by decide +kernel
theorem dX9_becomeLike_149 : decode cX9_becomeLike 149 = .ok (.invokevirtual 94, 3) := by decide +kernel
theorem dX9_becomeLike_152 : decode cX9_becomeLike 152 = .ok (.aload_n 0, 1) := by decide +kernel
theorem dX9_becomeLike_153 : decode cX9_becomeLike 153 = .ok (.getfield 58, 3) := by decide +kernel
theorem dX9_becomeLike_156 : decode cX9_becomeLike 156 = .ok (.aload_n 1, 1) := by decide +kernel
theorem dX9_becomeLike_157 : decode cX9_becomeLike 157 = .ok (.getfield 58, 3) := by decide +kernel
theorem dX9_becomeLike_160 : decode cX9_becomeLike 160 = .ok (.invokevirtual 97, 3) := by decide +kernel
theorem dX9_becomeLike_163 : decode cX9_becomeLike 163 = .ok (.aload_n 1, 1) := by decide +kernel
theorem dX9_becomeLike_164 : decode cX9_becomeLike 164 = .ok (.getfield 62, 3) := by decide +kernel
theorem dX9_becomeLike_167 : decode cX9_becomeLike 167 = .ok (.iconst 0, 1) := by decide +kernel
theorem dX9_becomeLike_168 : decode cX9_becomeLike 168 = .ok (.aload_n 0, 1) := by decide +kernel
theorem dX9_becomeLike_169 : decode cX9_becomeLike 169 = .ok (.getfield 62, 3) := by decide +kernel
theorem dX9_becomeLike_172 : decode cX9_becomeLike 172 = .ok (.iconst 0, 1) := by decide +kernel
theorem dX9_becomeLike_173 : decode cX9_becomeLike 173 = .ok (.bipush 64, 2) := by decide +kernel
theorem dX9_becomeLike_175 : decode cX9_becomeLike 175 = .ok (.invokestatic 78, 3) := by decide +kernel
theorem dX9_becomeLike_178 : decode cX9_becomeLike 178 = .ok (.aload_n 1, 1) := by decide +kernel
theorem dX9_becomeLike_179 : decode cX9_becomeLike 179 = .ok (.getfield 66, 3) := by decide +kernel
theorem dX9_becomeLike_182 : decode cX9_becomeLike 182 = .ok (.iconst 0, 1) := by decide +kernel
theorem dX9_becomeLike_183 : decode cX9_becomeLike 183 = .ok (.aload_n 0, 1) := by decide +kernel
theorem dX9_becomeLike_184 : decode cX9_becomeLike 184 = .ok (.getfield 66, 3) := by decide +kernel
theorem dX9_becomeLike_187 : decode cX9_becomeLike 187 = .ok (.iconst 0, 1) := by decide +kernel
theorem dX9_becomeLike_188 : decode cX9_becomeLike 188 = .ok (.bipush 10, 2) := by decide +kernel
theorem dX9_becomeLike_190 : decode cX9_becomeLike 190 = .ok (.invokestatic 78, 3) := by decide +kernel
theorem dX9_becomeLike_193 : decode cX9_becomeLike 193 = .ok (.aload_n 1, 1) := by decide +kernel
theorem dX9_becomeLike_194 : decode cX9_becomeLike 194 = .ok (.getfield 69, 3) := by decide +kernel
theorem dX9_becomeLike_197 : decode cX9_becomeLike 197 = .ok (.iconst 0, 1) := by decide +kernel
theorem dX9_becomeLike_198 : decode cX9_becomeLike 198 = .ok (.aload_n 0, 1) := by decide +kernel
theorem dX9_becomeLike_199 : decode cX9_becomeLike 199 = .ok (.getfield 69, 3) := by decide +kernel
theorem dX9_becomeLike_202 : decode cX9_becomeLike 202 = .ok (.iconst 0, 1) := by decide +kernel
theorem dX9_becomeLike_203 : decode cX9_becomeLike 203 = .ok (.bipush 6, 2) := by decide +kernel
theorem dX9_becomeLike_205 : decode cX9_becomeLike 205 = .ok (.invokestatic 78, 3) := by decide +kernel
theorem dX9_becomeLike_208 : decode cX9_becomeLike 208 = .ok (.return_, 1) := by decide +kernel
theorem dX9_isPerson_0 : decode cX9_isPerson 0 = .ok (.iload_n 1, 1) := by decide +kernel
theorem dX9_isPerson_1 : decode cX9_isPerson 1 = .ok (.ifCond .lt 15, 3) := by decide +kernel
theorem dX9_isPerson_4 : decode cX9_isPerson 4 = .ok (.iload_n 1, 1) := by decide +kernel
theorem dX9_isPerson_5 : decode cX9_isPerson 5 = .ok (.aload_n 0, 1) := by decide +kernel
theorem dX9_isPerson_6 : decode cX9_isPerson 6 = .ok (.getfield 15, 3) := by decide +kernel
theorem dX9_isPerson_9 : decode cX9_isPerson 9 = .ok (.if_icmp .ge 7, 3) := by decide +kernel
theorem dX9_isPerson_12 : decode cX9_isPerson 12 = .ok (.iconst 1, 1) := by decide +kernel
theorem dX9_isPerson_13 : decode cX9_isPerson 13 = .ok (.goto 4, 3) := by decide +kernel
theorem dX9_isPerson_16 : decode cX9_isPerson 16 = .ok (.iconst 0, 1) := by decide +kernel
theorem dX9_isPerson_17 : decode cX9_isPerson 17 = .ok (.ireturn, 1) := by decide +kernel
theorem dX9_isSource_0 : decode cX9_isSource 0 = .ok (.iload_n 1, 1) := by decide +kernel
theorem dX9_isSource_1 : decode cX9_isSource 1 = .ok (.ifCond .lt 15, 3) := by decide +kernel
theorem dX9_isSource_4 : decode cX9_isSource 4 = .ok (.iload_n 1, 1) := by decide +kernel
theorem dX9_isSource_5 : decode cX9_isSource 5 = .ok (.aload_n 0, 1) := by decide +kernel
theorem dX9_isSource_6 : decode cX9_isSource 6 = .ok (.getfield 18, 3) := by decide +kernel
theorem dX9_isSource_9 : decode cX9_isSource 9 = .ok (.if_icmp .ge 7, 3) := by decide +kernel
theorem dX9_isSource_12 : decode cX9_isSource 12 = .ok (.iconst 1, 1) := by decide +kernel
theorem dX9_isSource_13 : decode cX9_isSource 13 = .ok (.goto 4, 3) := by decide +kernel
theorem dX9_isSource_16 : decode cX9_isSource 16 = .ok (.iconst 0, 1) := by decide +kernel
theorem dX9_isSource_17 : decode cX9_isSource 17 = .ok (.ireturn, 1) := by decide +kernel
theorem dX9_allSources_0 : decode cX9_allSources 0 = .ok (.aload_n 0, 1) := by decide +kernel
theorem dX9_allSources_1 : decode cX9_allSources 1 = .ok (.getfield 18, 3) := by decide +kernel
theorem dX9_allSources_4 : decode cX9_allSources 4 = .ok (.invokestatic 100, 3) := by decide +kernel
theorem dX9_allSources_7 : decode cX9_allSources 7 = .ok (.iconst 1, 1) := by decide +kernel
theorem dX9_allSources_8 : decode cX9_allSources 8 = .ok (.isub, 1) := by decide +kernel
theorem dX9_allSources_9 : decode cX9_allSources 9 = .ok (.ireturn, 1) := by decide +kernel
theorem dX9_addPerson_0 : decode cX9_addPerson 0 = .ok (.aload_n 0, 1) := by decide +kernel
theorem dX9_addPerson_1 : decode cX9_addPerson 1 = .ok (.getfield 32, 3) := by decide +kernel
theorem dX9_addPerson_4 : decode cX9_addPerson 4 = .ok (.aload_n 0, 1) := by decide +kernel
theorem dX9_addPerson_5 : decode cX9_addPerson 5 = .ok (.getfield 15, 3) := by decide +kernel
theorem dX9_addPerson_8 : decode cX9_addPerson 8 = .ok (.aaload, 1) := by decide +kernel
theorem dX9_addPerson_9 : decode cX9_addPerson 9 = .ok (.iload_n 1, 1) := by decide +kernel
theorem dX9_addPerson_10 : decode cX9_addPerson 10 = .ok (.iload_n 2, 1) := by decide +kernel
theorem dX9_addPerson_11 : decode cX9_addPerson 11 = .ok (.iload_n 3, 1) := by decide +kernel
theorem dX9_addPerson_12 : decode cX9_addPerson 12 = .ok (.iload 4, 2) := by decide +kernel
theorem dX9_addPerson_14 : decode cX9_addPerson 14 = .ok (.iload 5, 2) := by decide +kernel
theorem dX9_addPerson_16 : decode cX9_addPerson 16 = .ok (.invokevirtual 104, 3) := by decide +kernel
theorem dX9_addPerson_19 : decode cX9_addPerson 19 = .ok (.aload_n 0, 1) := by decide +kernel
theorem dX9_addPerson_20 : decode cX9_addPerson 20 = .ok (.dup, 1) := by decide +kernel
theorem dX9_addPerson_21 : decode cX9_addPerson 21 = .ok (.getfield 15, 3) := by decide +kernel
theorem dX9_addPerson_24 : decode cX9_addPerson 24 = .ok (.iconst 1, 1) := by decide +kernel
theorem dX9_addPerson_25 : decode cX9_addPerson 25 = .ok (.iadd, 1) := by decide +kernel
theorem dX9_addPerson_26 : decode cX9_addPerson 26 = .ok (.putfield 15, 3) := by decide +kernel
theorem dX9_addPerson_29 : decode cX9_addPerson 29 = .ok (.aload_n 0, 1) := by decide +kernel
theorem dX9_addPerson_30 : decode cX9_addPerson 30 = .ok (.getfield 15, 3) := by decide +kernel
theorem dX9_addPerson_33 : decode cX9_addPerson 33 = .ok (.iconst 1, 1) := by decide +kernel
theorem dX9_addPerson_34 : decode cX9_addPerson 34 = .ok (.isub, 1) := by decide +kernel
theorem dX9_addPerson_35 : decode cX9_addPerson 35 = .ok (.ireturn, 1) := by decide +kernel
theorem dX9_addSource_0 : decode cX9_addSource 0 = .ok (.aload_n 0, 1) := by decide +kernel
theorem dX9_addSource_1 : decode cX9_addSource 1 = .ok (.getfield 38, 3) := by decide +kernel
theorem dX9_addSource_4 : decode cX9_addSource 4 = .ok (.aload_n 0, 1) := by decide +kernel
theorem dX9_addSource_5 : decode cX9_addSource 5 = .ok (.getfield 18, 3) := by decide +kernel
theorem dX9_addSource_8 : decode cX9_addSource 8 = .ok (.aaload, 1) := by decide +kernel
theorem dX9_addSource_9 : decode cX9_addSource 9 = .ok (.astore 5, 2) := by decide +kernel
theorem dX9_addSource_11 : decode cX9_addSource 11 = .ok (.aload 5, 2) := by decide +kernel
theorem dX9_addSource_13 : decode cX9_addSource 13 = .ok (.iload_n 1, 1) := by decide +kernel
theorem dX9_addSource_14 : decode cX9_addSource 14 = .ok (.iload_n 2, 1) := by decide +kernel
theorem dX9_addSource_15 : decode cX9_addSource 15 = .ok (.iload_n 3, 1) := by decide +kernel
theorem dX9_addSource_16 : decode cX9_addSource 16 = .ok (.iload 4, 2) := by decide +kernel
theorem dX9_addSource_18 : decode cX9_addSource 18 = .ok (.invokevirtual 108, 3) := by decide +kernel
theorem dX9_addSource_21 : decode cX9_addSource 21 = .ok (.iconst 0, 1) := by decide +kernel
theorem dX9_addSource_22 : decode cX9_addSource 22 = .ok (.istore 6, 2) := by decide +kernel
theorem dX9_addSource_24 : decode cX9_addSource 24 = .ok (.iload 6, 2) := by decide +kernel
theorem dX9_addSource_26 : decode cX9_addSource 26 = .ok (.aload_n 0, 1) := by decide +kernel
theorem dX9_addSource_27 : decode cX9_addSource 27 = .ok (.getfield 18, 3) := by decide +kernel
theorem dX9_addSource_30 : decode cX9_addSource 30 = .ok (.if_icmp .ge 63, 3) := by decide +kernel
theorem dX9_addSource_33 : decode cX9_addSource 33 = .ok (.iload_n 3, 1) := by decide +kernel
theorem dX9_addSource_34 : decode cX9_addSource 34 = .ok (.aload_n 0, 1) := by decide +kernel
theorem dX9_addSource_35 : decode cX9_addSource 35 = .ok (.getfield 38, 3) := by decide +kernel
theorem dX9_addSource_38 : decode cX9_addSource 38 = .ok (.iload 6, 2) := by decide +kernel
theorem dX9_addSource_40 : decode cX9_addSource 40 = .ok (.aaload, 1) := by decide +kernel
theorem dX9_addSource_41 : decode cX9_addSource 41 = .ok (.getfield 111, 3) := by decide +kernel
theorem dX9_addSource_44 : decode cX9_addSource 44 = .ok (.invokestatic 114, 3) := by decide +kernel
theorem dX9_addSource_47 : decode cX9_addSource 47 = .ok (.ifCond .eq 40, 3) := by decide +kernel
theorem dX9_addSource_50 : decode cX9_addSource 50 = .ok (.aload 5, 2) := by decide +kernel
theorem dX9_addSource_52 : decode cX9_addSource 52 = .ok (.dup, 1) := by decide +kernel
theorem dX9_addSource_53 : decode cX9_addSource 53 = .ok (.getfield 118, 3) := by decide +kernel
theorem dX9_addSource_56 : decode cX9_addSource 56 = .ok (.iload 6, 2) := by decide +kernel
theorem dX9_addSource_58 : decode cX9_addSource 58 = .ok (.invokestatic 100, 3) := by decide +kernel
theorem dX9_addSource_61 : decode cX9_addSource 61 = .ok (.ior, 1) := by decide +kernel
theorem dX9_addSource_62 : decode cX9_addSource 62 = .ok (.putfield 118, 3) := by decide +kernel
theorem dX9_addSource_65 : decode cX9_addSource 65 = .ok (.aload_n 0, 1) := by decide +kernel
theorem dX9_addSource_66 : decode cX9_addSource 66 = .ok (.getfield 38, 3) := by decide +kernel
theorem dX9_addSource_69 : decode cX9_addSource 69 = .ok (.iload 6, 2) := by decide +kernel
theorem dX9_addSource_71 : decode cX9_addSource 71 = .ok (.aaload, 1) := by decide +kernel
theorem dX9_addSource_72 : decode cX9_addSource 72 = .ok (.dup, 1) := by decide +kernel
theorem dX9_addSource_73 : decode cX9_addSource 73 = .ok (.getfield 118, 3) := by decide +kernel
theorem dX9_addSource_76 : decode cX9_addSource 76 = .ok (.aload_n 0, 1) := by decide +kernel
theorem dX9_addSource_77 : decode cX9_addSource 77 = .ok (.getfield 18, 3) := by decide +kernel
theorem dX9_addSource_80 : decode cX9_addSource 80 = .ok (.invokestatic 100, 3) := by decide +kernel
theorem dX9_addSource_83 : decode cX9_addSource 83 = .ok (.ior, 1) := by decide +kernel
theorem dX9_addSource_84 : decode cX9_addSource 84 = .ok (.putfield 118, 3) := by decide +kernel
theorem dX9_addSource_87 : decode cX9_addSource 87 = .ok (.iinc 6 1, 3) := by decide +kernel
theorem dX9_addSource_90 : decode cX9_addSource 90 = .ok (.goto (-66), 3) := by decide +kernel
theorem dX9_addSource_93 : decode cX9_addSource 93 = .ok (.aload_n 0, 1) := by decide +kernel
theorem dX9_addSource_94 : decode cX9_addSource 94 = .ok (.dup, 1) := by decide +kernel
theorem dX9_addSource_95 : decode cX9_addSource 95 = .ok (.getfield 18, 3) := by decide +kernel
theorem dX9_addSource_98 : decode cX9_addSource 98 = .ok (.iconst 1, 1) := by decide +kernel
theorem dX9_addSource_99 : decode cX9_addSource 99 = .ok (.iadd, 1) := by decide +kernel
theorem dX9_addSource_100 : decode cX9_addSource 100 = .ok (.putfield 18, 3) := by decide +kernel
theorem dX9_addSource_103 : decode cX9_addSource 103 = .ok (.aload_n 0, 1) := by decide +kernel
theorem dX9_addSource_104 : decode cX9_addSource 104 = .ok (.getfield 18, 3) := by decide +kernel
theorem dX9_addSource_107 : decode cX9_addSource 107 = .ok (.iconst 1, 1) := by decide +kernel
theorem dX9_addSource_108 : decode cX9_addSource 108 = .ok (.isub, 1) := by decide +kernel
theorem dX9_addSource_109 : decode cX9_addSource 109 = .ok (.ireturn, 1) := by decide +kernel
theorem dX9_addPlan_0 : decode cX9_addPlan 0 = .ok (.aload_n 0, 1) := by decide +kernel
theorem dX9_addPlan_1 : decode cX9_addPlan 1 = .ok (.getfield 44, 3) := by decide +kernel
theorem dX9_addPlan_4 : decode cX9_addPlan 4 = .ok (.aload_n 0, 1) := by decide +kernel
theorem dX9_addPlan_5 : decode cX9_addPlan 5 = .ok (.getfield 21, 3) := by decide +kernel
theorem dX9_addPlan_8 : decode cX9_addPlan 8 = .ok (.aaload, 1) := by decide +kernel
theorem dX9_addPlan_9 : decode cX9_addPlan 9 = .ok (.aload_n 1, 1) := by decide +kernel
theorem dX9_addPlan_10 : decode cX9_addPlan 10 = .ok (.invokevirtual 91, 3) := by decide +kernel
theorem dX9_addPlan_13 : decode cX9_addPlan 13 = .ok (.aload_n 0, 1) := by decide +kernel
theorem dX9_addPlan_14 : decode cX9_addPlan 14 = .ok (.dup, 1) := by decide +kernel
theorem dX9_addPlan_15 : decode cX9_addPlan 15 = .ok (.getfield 21, 3) := by decide +kernel
theorem dX9_addPlan_18 : decode cX9_addPlan 18 = .ok (.iconst 1, 1) := by decide +kernel
theorem dX9_addPlan_19 : decode cX9_addPlan 19 = .ok (.iadd, 1) := by decide +kernel
theorem dX9_addPlan_20 : decode cX9_addPlan 20 = .ok (.putfield 21, 3) := by decide +kernel
theorem dX9_addPlan_23 : decode cX9_addPlan 23 = .ok (.aload_n 0, 1) := by decide +kernel
theorem dX9_addPlan_24 : decode cX9_addPlan 24 = .ok (.getfield 21, 3) := by decide +kernel
theorem dX9_addPlan_27 : decode cX9_addPlan 27 = .ok (.iconst 1, 1) := by decide +kernel
theorem dX9_addPlan_28 : decode cX9_addPlan 28 = .ok (.isub, 1) := by decide +kernel
theorem dX9_addPlan_29 : decode cX9_addPlan 29 = .ok (.ireturn, 1) := by decide +kernel
theorem dX9_addPresses_0 : decode cX9_addPresses 0 = .ok (.iconst 0, 1) := by decide +kernel
theorem dX9_addPresses_1 : decode cX9_addPresses 1 = .ok (.istore 5, 2) := by decide +kernel
theorem dX9_addPresses_3 : decode cX9_addPresses 3 = .ok (.iload 5, 2) := by decide +kernel
theorem dX9_addPresses_5 : decode cX9_addPresses 5 = .ok (.iload 4, 2) := by decide +kernel
theorem dX9_addPresses_7 : decode cX9_addPresses 7 = .ok (.if_icmp .ge 64, 3) := by decide +kernel
theorem dX9_addPresses_10 : decode cX9_addPresses 10 = .ok (.aload_n 2, 1) := by decide +kernel
theorem dX9_addPresses_11 : decode cX9_addPresses 11 = .ok (.iload_n 3, 1) := by decide +kernel
theorem dX9_addPresses_12 : decode cX9_addPresses 12 = .ok (.iload 5, 2) := by decide +kernel
theorem dX9_addPresses_14 : decode cX9_addPresses 14 = .ok (.iadd, 1) := by decide +kernel
theorem dX9_addPresses_15 : decode cX9_addPresses 15 = .ok (.invokevirtual 121, 3) := by decide +kernel
theorem dX9_addPresses_18 : decode cX9_addPresses 18 = .ok (.ifCond .eq 47, 3) := by decide +kernel
theorem dX9_addPresses_21 : decode cX9_addPresses 21 = .ok (.aload_n 0, 1) := by decide +kernel
theorem dX9_addPresses_22 : decode cX9_addPresses 22 = .ok (.getfield 51, 3) := by decide +kernel
theorem dX9_addPresses_25 : decode cX9_addPresses 25 = .ok (.iload_n 1, 1) := by decide +kernel
theorem dX9_addPresses_26 : decode cX9_addPresses 26 = .ok (.aload_n 0, 1) := by decide +kernel
theorem dX9_addPresses_27 : decode cX9_addPresses 27 = .ok (.getfield 9, 3) := by decide +kernel
theorem dX9_addPresses_30 : decode cX9_addPresses 30 = .ok (.iload 4, 2) := by decide +kernel
theorem dX9_addPresses_32 : decode cX9_addPresses 32 = .ok (.isub, 1) := by decide +kernel
theorem dX9_addPresses_33 : decode cX9_addPresses 33 = .ok (.iload 5, 2) := by decide +kernel
theorem dX9_addPresses_35 : decode cX9_addPresses 35 = .ok (.iadd, 1) := by decide +kernel
theorem dX9_addPresses_36 : decode cX9_addPresses 36 = .ok (.aload_n 0, 1) := by decide +kernel
theorem dX9_addPresses_37 : decode cX9_addPresses 37 = .ok (.getfield 32, 3) := by decide +kernel
theorem dX9_addPresses_40 : decode cX9_addPresses 40 = .ok (.iload_n 1, 1) := by decide +kernel
theorem dX9_addPresses_41 : decode cX9_addPresses 41 = .ok (.aaload, 1) := by decide +kernel
theorem dX9_addPresses_42 : decode cX9_addPresses 42 = .ok (.getfield 127, 3) := by decide +kernel
theorem dX9_addPresses_45 : decode cX9_addPresses 45 = .ok (.aload_n 2, 1) := by decide +kernel
theorem dX9_addPresses_46 : decode cX9_addPresses 46 = .ok (.iload_n 3, 1) := by decide +kernel
theorem dX9_addPresses_47 : decode cX9_addPresses 47 = .ok (.iload 5, 2) := by decide +kernel
theorem dX9_addPresses_49 : decode cX9_addPresses 49 = .ok (.iadd, 1) := by decide +kernel
theorem dX9_addPresses_50 : decode cX9_addPresses 50 = .ok (.invokevirtual 130, 3) := by decide +kernel
theorem dX9_addPresses_53 : decode cX9_addPresses 53 = .ok (.iconst 1, 1) := by decide +kernel
theorem dX9_addPresses_54 : decode cX9_addPresses 54 = .ok (.if_icmp .ne 7, 3) := by decide +kernel
theorem dX9_addPresses_57 : decode cX9_addPresses 57 = .ok (.iconst 1, 1) := by decide +kernel
theorem dX9_addPresses_58 : decode cX9_addPresses 58 = .ok (.goto 4, 3) := by decide +kernel
theorem dX9_addPresses_61 : decode cX9_addPresses 61 = .ok (.iconst 0, 1) := by decide +kernel
theorem dX9_addPresses_62 : decode cX9_addPresses 62 = .ok (.invokevirtual 133, 3) := by decide +kernel
theorem dX9_addPresses_65 : decode cX9_addPresses 65 = .ok (.iinc 5 1, 3) := by decide +kernel
theorem dX9_addPresses_68 : decode cX9_addPresses 68 = .ok (.goto (-65), 3) := by decide +kernel
theorem dX9_addPresses_71 : decode cX9_addPresses 71 = .ok (.return_, 1) := by decide +kernel
theorem dX9_wordOf_0 : decode cX9_wordOf 0 = .ok (.aload_n 0, 1) := by decide +kernel
theorem dX9_wordOf_1 : decode cX9_wordOf 1 = .ok (.getfield 38, 3) := by decide +kernel
theorem dX9_wordOf_4 : decode cX9_wordOf 4 = .ok (.iload_n 1, 1) := by decide +kernel
theorem dX9_wordOf_5 : decode cX9_wordOf 5 = .ok (.aaload, 1) := by decide +kernel
theorem dX9_wordOf_6 : decode cX9_wordOf 6 = .ok (.astore_n 3, 1) := by decide +kernel
theorem dX9_wordOf_7 : decode cX9_wordOf 7 = .ok (.iload_n 2, 1) := by decide +kernel
theorem dX9_wordOf_8 : decode cX9_wordOf 8 = .ok (.tableswitch 70 0 7 #[48, 53, 70, 70, 70, 58, 65, 53], 48) := by decide +kernel
theorem dX9_wordOf_56 : decode cX9_wordOf 56 = .ok (.aload_n 3, 1) := by decide +kernel
theorem dX9_wordOf_57 : decode cX9_wordOf 57 = .ok (.getfield 111, 3) := by decide +kernel
theorem dX9_wordOf_60 : decode cX9_wordOf 60 = .ok (.ireturn, 1) := by decide +kernel
theorem dX9_wordOf_61 : decode cX9_wordOf 61 = .ok (.aload_n 3, 1) := by decide +kernel
theorem dX9_wordOf_62 : decode cX9_wordOf 62 = .ok (.invokevirtual 137, 3) := by decide +kernel
theorem dX9_wordOf_65 : decode cX9_wordOf 65 = .ok (.ireturn, 1) := by decide +kernel
theorem dX9_wordOf_66 : decode cX9_wordOf 66 = .ok (.aload_n 0, 1) := by decide +kernel
theorem dX9_wordOf_67 : decode cX9_wordOf 67 = .ok (.getfield 69, 3) := by decide +kernel
theorem dX9_wordOf_70 : decode cX9_wordOf 70 = .ok (.iconst 5, 1) := by decide +kernel
theorem dX9_wordOf_71 : decode cX9_wordOf 71 = .ok (.iaload, 1) := by decide +kernel
theorem dX9_wordOf_72 : decode cX9_wordOf 72 = .ok (.ireturn, 1) := by decide +kernel
theorem dX9_wordOf_73 : decode cX9_wordOf 73 = .ok (.aload_n 0, 1) := by decide +kernel
theorem dX9_wordOf_74 : decode cX9_wordOf 74 = .ok (.invokevirtual 141, 3) := by decide +kernel
theorem dX9_wordOf_77 : decode cX9_wordOf 77 = .ok (.ireturn, 1) := by decide +kernel
theorem dX9_wordOf_78 : decode cX9_wordOf 78 = .ok (.aload_n 3, 1) := by decide +kernel
theorem dX9_wordOf_79 : decode cX9_wordOf 79 = .ok (.getfield 144, 3) := by decide +kernel
theorem dX9_wordOf_82 : decode cX9_wordOf 82 = .ok (.ireturn, 1) := by decide +kernel
theorem dX9_countStorms_0 : decode cX9_countStorms 0 = .ok (.iconst 0, 1) := by decide +kernel
theorem dX9_countStorms_1 : decode cX9_countStorms 1 = .ok (.istore_n 1, 1) := by decide +kernel
theorem dX9_countStorms_2 : decode cX9_countStorms 2 = .ok (.iconst 0, 1) := by decide +kernel
theorem dX9_countStorms_3 : decode cX9_countStorms 3 = .ok (.istore_n 2, 1) := by decide +kernel
theorem dX9_countStorms_4 : decode cX9_countStorms 4 = .ok (.iload_n 2, 1) := by decide +kernel
theorem dX9_countStorms_5 : decode cX9_countStorms 5 = .ok (.bipush 10, 2) := by decide +kernel
theorem dX9_countStorms_7 : decode cX9_countStorms 7 = .ok (.if_icmp .ge 18, 3) := by decide +kernel
theorem dX9_countStorms_10 : decode cX9_countStorms 10 = .ok (.iload_n 1, 1) := by decide +kernel
theorem dX9_countStorms_11 : decode cX9_countStorms 11 = .ok (.aload_n 0, 1) := by decide +kernel
theorem dX9_countStorms_12 : decode cX9_countStorms 12 = .ok (.getfield 66, 3) := by decide +kernel
theorem dX9_countStorms_15 : decode cX9_countStorms 15 = .ok (.iload_n 2, 1) := by decide +kernel
theorem dX9_countStorms_16 : decode cX9_countStorms 16 = .ok (.iaload, 1) := by decide +kernel
theorem dX9_countStorms_17 : decode cX9_countStorms 17 = .ok (.iadd, 1) := by decide +kernel
theorem dX9_countStorms_18 : decode cX9_countStorms 18 = .ok (.istore_n 1, 1) := by decide +kernel
theorem dX9_countStorms_19 : decode cX9_countStorms 19 = .ok (.iinc 2 1, 3) := by decide +kernel
theorem dX9_countStorms_22 : decode cX9_countStorms 22 = .ok (.goto (-18), 3) := by decide +kernel
theorem dX9_countStorms_25 : decode cX9_countStorms 25 = .ok (.iload_n 1, 1) := by decide +kernel
theorem dX9_countStorms_26 : decode cX9_countStorms 26 = .ok (.ireturn, 1) := by decide +kernel
theorem dX9_soundingAt_0 : decode cX9_soundingAt 0 = .ok (.aload_n 0, 1) := by decide +kernel
theorem dX9_soundingAt_1 : decode cX9_soundingAt 1 = .ok (.invokevirtual 147, 3) := by decide +kernel
theorem dX9_soundingAt_4 : decode cX9_soundingAt 4 = .ok (.aload_n 0, 1) := by decide +kernel
theorem dX9_soundingAt_5 : decode cX9_soundingAt 5 = .ok (.iload_n 1, 1) := by decide +kernel
theorem dX9_soundingAt_6 : decode cX9_soundingAt 6 = .ok (.invokevirtual 150, 3) := by decide +kernel
theorem dX9_soundingAt_9 : decode cX9_soundingAt 9 = .ok (.iconst (-1), 1) := by decide +kernel
theorem dX9_soundingAt_10 : decode cX9_soundingAt 10 = .ok (.ixor, 1) := by decide +kernel
theorem dX9_soundingAt_11 : decode cX9_soundingAt 11 = .ok (.iand, 1) := by decide +kernel
theorem dX9_soundingAt_12 : decode cX9_soundingAt 12 = .ok (.istore_n 2, 1) := by decide +kernel
theorem dX9_soundingAt_13 : decode cX9_soundingAt 13 = .ok (.iload_n 2, 1) := by decide +kernel
theorem dX9_soundingAt_14 : decode cX9_soundingAt 14 = .ok (.aload_n 0, 1) := by decide +kernel
theorem dX9_soundingAt_15 : decode cX9_soundingAt 15 = .ok (.iload_n 1, 1) := by decide +kernel
theorem dX9_soundingAt_16 : decode cX9_soundingAt 16 = .ok (.invokevirtual 153, 3) := by decide +kernel
theorem dX9_soundingAt_19 : decode cX9_soundingAt 19 = .ok (.iand, 1) := by decide +kernel
theorem dX9_soundingAt_20 : decode cX9_soundingAt 20 = .ok (.istore_n 3, 1) := by decide +kernel
theorem dX9_soundingAt_21 : decode cX9_soundingAt 21 = .ok (.iconst 0, 1) := by decide +kernel
theorem dX9_soundingAt_22 : decode cX9_soundingAt 22 = .ok (.istore 4, 2) := by decide +kernel
theorem dX9_soundingAt_24 : decode cX9_soundingAt 24 = .ok (.iconst 0, 1) := by decide +kernel
theorem dX9_soundingAt_25 : decode cX9_soundingAt 25 = .ok (.istore 5, 2) := by decide +kernel
theorem dX9_soundingAt_27 : decode cX9_soundingAt 27 = .ok (.iload 5, 2) := by decide +kernel
theorem dX9_soundingAt_29 : decode cX9_soundingAt 29 = .ok (.aload_n 0, 1) := by decide +kernel
theorem dX9_soundingAt_30 : decode cX9_soundingAt 30 = .ok (.getfield 18, 3) := by decide +kernel
theorem dX9_soundingAt_33 : decode cX9_soundingAt 33 = .ok (.if_icmp .ge 39, 3) := by decide +kernel
theorem dX9_soundingAt_36 : decode cX9_soundingAt 36 = .ok (.iload_n 2, 1) := by decide +kernel
theorem dX9_soundingAt_37 : decode cX9_soundingAt 37 = .ok (.iload 5, 2) := by decide +kernel
theorem dX9_soundingAt_39 : decode cX9_soundingAt 39 = .ok (.invokestatic 156, 3) := by decide +kernel
theorem dX9_soundingAt_42 : decode cX9_soundingAt 42 = .ok (.ifCond .eq 24, 3) := by decide +kernel
theorem dX9_soundingAt_45 : decode cX9_soundingAt 45 = .ok (.aload_n 0, 1) := by decide +kernel
theorem dX9_soundingAt_46 : decode cX9_soundingAt 46 = .ok (.iload 5, 2) := by decide +kernel
theorem dX9_soundingAt_48 : decode cX9_soundingAt 48 = .ok (.iload_n 1, 1) := by decide +kernel
theorem dX9_soundingAt_49 : decode cX9_soundingAt 49 = .ok (.iload_n 3, 1) := by decide +kernel
theorem dX9_soundingAt_50 : decode cX9_soundingAt 50 = .ok (.invokevirtual 159, 3) := by decide +kernel
theorem dX9_soundingAt_53 : decode cX9_soundingAt 53 = .ok (.ifCond .eq 13, 3) := by decide +kernel
theorem dX9_soundingAt_56 : decode cX9_soundingAt 56 = .ok (.iload 4, 2) := by decide +kernel
theorem dX9_soundingAt_58 : decode cX9_soundingAt 58 = .ok (.iload 5, 2) := by decide +kernel
theorem dX9_soundingAt_60 : decode cX9_soundingAt 60 = .ok (.invokestatic 100, 3) := by decide +kernel
theorem dX9_soundingAt_63 : decode cX9_soundingAt 63 = .ok (.ior, 1) := by decide +kernel
theorem dX9_soundingAt_64 : decode cX9_soundingAt 64 = .ok (.istore 4, 2) := by decide +kernel
theorem dX9_soundingAt_66 : decode cX9_soundingAt 66 = .ok (.iinc 5 1, 3) := by decide +kernel
theorem dX9_soundingAt_69 : decode cX9_soundingAt 69 = .ok (.goto (-42), 3) := by decide +kernel
theorem dX9_soundingAt_72 : decode cX9_soundingAt 72 = .ok (.iload 4, 2) := by decide +kernel
theorem dX9_soundingAt_74 : decode cX9_soundingAt 74 = .ok (.ireturn, 1) := by decide +kernel
theorem dX9_offAt_0 : decode cX9_offAt 0 = .ok (.aload_n 0, 1) := by decide +kernel
theorem dX9_offAt_1 : decode cX9_offAt 1 = .ok (.getfield 24, 3) := by decide +kernel
theorem dX9_offAt_4 : decode cX9_offAt 4 = .ok (.ifCond .lt 14, 3) := by decide +kernel
theorem dX9_offAt_7 : decode cX9_offAt 7 = .ok (.aload_n 0, 1) := by decide +kernel
theorem dX9_offAt_8 : decode cX9_offAt 8 = .ok (.getfield 24, 3) := by decide +kernel
theorem dX9_offAt_11 : decode cX9_offAt 11 = .ok (.aload_n 0, 1) := by decide +kernel
theorem dX9_offAt_12 : decode cX9_offAt 12 = .ok (.getfield 21, 3) := by decide +kernel
theorem dX9_offAt_15 : decode cX9_offAt 15 = .ok (.if_icmp .lt 8, 3) := by decide +kernel
theorem dX9_offAt_18 : decode cX9_offAt 18 = .ok (.aload_n 0, 1) := by decide +kernel
theorem dX9_offAt_19 : decode cX9_offAt 19 = .ok (.getfield 27, 3) := by decide +kernel
theorem dX9_offAt_22 : decode cX9_offAt 22 = .ok (.ireturn, 1) := by decide +kernel
theorem dX9_offAt_23 : decode cX9_offAt 23 = .ok (.aload_n 0, 1) := by decide +kernel
theorem dX9_offAt_24 : decode cX9_offAt 24 = .ok (.getfield 44, 3) := by decide +kernel
theorem dX9_offAt_27 : decode cX9_offAt 27 = .ok (.aload_n 0, 1) := by decide +kernel
theorem dX9_offAt_28 : decode cX9_offAt 28 = .ok (.getfield 24, 3) := by decide +kernel
theorem dX9_offAt_31 : decode cX9_offAt 31 = .ok (.aaload, 1) := by decide +kernel
theorem dX9_offAt_32 : decode cX9_offAt 32 = .ok (.aload_n 0, 1) := by decide +kernel
theorem dX9_offAt_33 : decode cX9_offAt 33 = .ok (.getfield 27, 3) := by decide +kernel
theorem dX9_offAt_36 : decode cX9_offAt 36 = .ok (.iload_n 1, 1) := by decide +kernel
theorem dX9_offAt_37 : decode cX9_offAt 37 = .ok (.invokevirtual 163, 3) := by decide +kernel
theorem dX9_offAt_40 : decode cX9_offAt 40 = .ok (.ireturn, 1) := by decide +kernel
theorem dX9_fansRunningAt_0 : decode cX9_fansRunningAt 0 = .ok (.iconst 0, 1) := by decide +kernel
theorem dX9_fansRunningAt_1 : decode cX9_fansRunningAt 1 = .ok (.istore_n 2, 1) := by decide +kernel
theorem dX9_fansRunningAt_2 : decode cX9_fansRunningAt 2 = .ok (.iconst 0, 1) := by decide +kernel
theorem dX9_fansRunningAt_3 : decode cX9_fansRunningAt 3 = .ok (.istore_n 3, 1) := by decide +kernel
theorem dX9_fansRunningAt_4 : decode cX9_fansRunningAt 4 = .ok (.iload_n 3, 1) := by decide +kernel
theorem dX9_fansRunningAt_5 : decode cX9_fansRunningAt 5 = .ok (.aload_n 0, 1) := by decide +kernel
theorem dX9_fansRunningAt_6 : decode cX9_fansRunningAt 6 = .ok (.getfield 18, 3) := by decide +kernel
theorem dX9_fansRunningAt_9 : decode cX9_fansRunningAt 9 = .ok (.if_icmp .ge 44, 3) := by decide +kernel
theorem dX9_fansRunningAt_12 : decode cX9_fansRunningAt 12 = .ok (.aload_n 0, 1) := by decide +kernel
theorem dX9_fansRunningAt_13 : decode cX9_fansRunningAt 13 = .ok (.getfield 38, 3) := by decide +kernel
theorem dX9_fansRunningAt_16 : decode cX9_fansRunningAt 16 = .ok (.iload_n 3, 1) := by decide +kernel
theorem dX9_fansRunningAt_17 : decode cX9_fansRunningAt 17 = .ok (.aaload, 1) := by decide +kernel
theorem dX9_fansRunningAt_18 : decode cX9_fansRunningAt 18 = .ok (.invokevirtual 167, 3) := by decide +kernel
theorem dX9_fansRunningAt_21 : decode cX9_fansRunningAt 21 = .ok (.ifCond .eq 26, 3) := by decide +kernel
theorem dX9_fansRunningAt_24 : decode cX9_fansRunningAt 24 = .ok (.aload_n 0, 1) := by decide +kernel
theorem dX9_fansRunningAt_25 : decode cX9_fansRunningAt 25 = .ok (.getfield 38, 3) := by decide +kernel
theorem dX9_fansRunningAt_28 : decode cX9_fansRunningAt 28 = .ok (.iload_n 3, 1) := by decide +kernel
theorem dX9_fansRunningAt_29 : decode cX9_fansRunningAt 29 = .ok (.aaload, 1) := by decide +kernel
theorem dX9_fansRunningAt_30 : decode cX9_fansRunningAt 30 = .ok (.iload_n 1, 1) := by decide +kernel
theorem dX9_fansRunningAt_31 : decode cX9_fansRunningAt 31 = .ok (.bipush 24, 2) := by decide +kernel
theorem dX9_fansRunningAt_33 : decode cX9_fansRunningAt 33 = .ok (.irem, 1) := by decide +kernel
theorem dX9_fansRunningAt_34 : decode cX9_fansRunningAt 34 = .ok (.invokevirtual 171, 3) := by decide +kernel
theorem dX9_fansRunningAt_37 : decode cX9_fansRunningAt 37 = .ok (.ifCond .eq 10, 3) := by decide +kernel
theorem dX9_fansRunningAt_40 : decode cX9_fansRunningAt 40 = .ok (.iload_n 2, 1) := by decide +kernel
theorem dX9_fansRunningAt_41 : decode cX9_fansRunningAt 41 = .ok (.iload_n 3, 1) := by decide +kernel
theorem dX9_fansRunningAt_42 : decode cX9_fansRunningAt 42 = .ok (.invokestatic 100, 3) := by decide +kernel
theorem dX9_fansRunningAt_45 : decode cX9_fansRunningAt 45 = .ok (.ior, 1) := by decide +kernel
theorem dX9_fansRunningAt_46 : decode cX9_fansRunningAt 46 = .ok (.istore_n 2, 1) := by decide +kernel
theorem dX9_fansRunningAt_47 : decode cX9_fansRunningAt 47 = .ok (.iinc 3 1, 3) := by decide +kernel
theorem dX9_fansRunningAt_50 : decode cX9_fansRunningAt 50 = .ok (.goto (-46), 3) := by decide +kernel
theorem dX9_fansRunningAt_53 : decode cX9_fansRunningAt 53 = .ok (.iload_n 2, 1) := by decide +kernel
theorem dX9_fansRunningAt_54 : decode cX9_fansRunningAt 54 = .ok (.ireturn, 1) := by decide +kernel
theorem dX9_isDue_0 : decode cX9_isDue 0 = .ok (.aload_n 0, 1) := by decide +kernel
theorem dX9_isDue_1 : decode cX9_isDue 1 = .ok (.getfield 38, 3) := by decide +kernel
theorem dX9_isDue_4 : decode cX9_isDue 4 = .ok (.iload_n 1, 1) := by decide +kernel
theorem dX9_isDue_5 : decode cX9_isDue 5 = .ok (.aaload, 1) := by decide +kernel
theorem dX9_isDue_6 : decode cX9_isDue 6 = .ok (.getfield 174, 3) := by decide +kernel
theorem dX9_isDue_9 : decode cX9_isDue 9 = .ok (.tableswitch 112 1 7 #[43, 112, 112, 112, 77, 93, 49], 43) := by decide +kernel
theorem dX9_isDue_52 : decode cX9_isDue 52 = .ok (.iload_n 3, 1) := by decide +kernel
theorem dX9_isDue_53 : decode cX9_isDue 53 = .ok (.iload_n 1, 1) := by decide +kernel
theorem dX9_isDue_54 : decode cX9_isDue 54 = .ok (.invokestatic 156, 3) := by decide +kernel
theorem dX9_isDue_57 : decode cX9_isDue 57 = .ok (.ireturn, 1) := by decide +kernel
theorem dX9_isDue_58 : decode cX9_isDue 58 = .ok (.iload_n 3, 1) := by decide +kernel
theorem dX9_isDue_59 : decode cX9_isDue 59 = .ok (.iload_n 1, 1) := by decide +kernel
theorem dX9_isDue_60 : decode cX9_isDue 60 = .ok (.invokestatic 156, 3) := by decide +kernel
theorem dX9_isDue_63 : decode cX9_isDue 63 = .ok (.ifCond .eq 21, 3) := by decide +kernel
theorem dX9_isDue_66 : decode cX9_isDue 66 = .ok (.iload_n 3, 1) := by decide +kernel
theorem dX9_isDue_67 : decode cX9_isDue 67 = .ok (.aload_n 0, 1) := by decide +kernel
theorem dX9_isDue_68 : decode cX9_isDue 68 = .ok (.getfield 38, 3) := by decide +kernel
theorem dX9_isDue_71 : decode cX9_isDue 71 = .ok (.iload_n 1, 1) := by decide +kernel
theorem dX9_isDue_72 : decode cX9_isDue 72 = .ok (.aaload, 1) := by decide +kernel
theorem dX9_isDue_73 : decode cX9_isDue 73 = .ok (.getfield 118, 3) := by decide +kernel
theorem dX9_isDue_76 : decode cX9_isDue 76 = .ok (.iand, 1) := by decide +kernel
theorem dX9_isDue_77 : decode cX9_isDue 77 = .ok (.ifCond .eq 7, 3) := by decide +kernel
theorem dX9_isDue_80 : decode cX9_isDue 80 = .ok (.iconst 1, 1) := by decide +kernel
theorem dX9_isDue_81 : decode cX9_isDue 81 = .ok (.goto 4, 3) := by decide +kernel
theorem dX9_isDue_84 : decode cX9_isDue 84 = .ok (.iconst 0, 1) := by decide +kernel
theorem dX9_isDue_85 : decode cX9_isDue 85 = .ok (.ireturn, 1) := by decide +kernel
theorem dX9_isDue_86 : decode cX9_isDue 86 = .ok (.iload_n 2, 1) := by decide +kernel
theorem dX9_isDue_87 : decode cX9_isDue 87 = .ok (.aload_n 0, 1) := by decide +kernel
theorem dX9_isDue_88 : decode cX9_isDue 88 = .ok (.getfield 69, 3) := by decide +kernel
theorem dX9_isDue_91 : decode cX9_isDue 91 = .ok (.iconst 5, 1) := by decide +kernel
theorem dX9_isDue_92 : decode cX9_isDue 92 = .ok (.iaload, 1) := by decide +kernel
theorem dX9_isDue_93 : decode cX9_isDue 93 = .ok (.if_icmp .lt 7, 3) := by decide +kernel
theorem dX9_isDue_96 : decode cX9_isDue 96 = .ok (.iconst 1, 1) := by decide +kernel
theorem dX9_isDue_97 : decode cX9_isDue 97 = .ok (.goto 4, 3) := by decide +kernel
theorem dX9_isDue_100 : decode cX9_isDue 100 = .ok (.iconst 0, 1) := by decide +kernel
theorem dX9_isDue_101 : decode cX9_isDue 101 = .ok (.ireturn, 1) := by decide +kernel
theorem dX9_isDue_102 : decode cX9_isDue 102 = .ok (.aload_n 0, 1) := by decide +kernel
theorem dX9_isDue_103 : decode cX9_isDue 103 = .ok (.getfield 66, 3) := by decide +kernel
theorem dX9_isDue_106 : decode cX9_isDue 106 = .ok (.iload_n 2, 1) := by decide +kernel
theorem dX9_isDue_107 : decode cX9_isDue 107 = .ok (.bipush 24, 2) := by decide +kernel
theorem dX9_isDue_109 : decode cX9_isDue 109 = .ok (.idiv, 1) := by decide +kernel
theorem dX9_isDue_110 : decode cX9_isDue 110 = .ok (.iaload, 1) := by decide +kernel
theorem dX9_isDue_111 : decode cX9_isDue 111 = .ok (.iconst 1, 1) := by decide +kernel
theorem dX9_isDue_112 : decode cX9_isDue 112 = .ok (.if_icmp .ne 7, 3) := by decide +kernel
theorem dX9_isDue_115 : decode cX9_isDue 115 = .ok (.iconst 1, 1) := by decide +kernel
theorem dX9_isDue_116 : decode cX9_isDue 116 = .ok (.goto 4, 3) := by decide +kernel
theorem dX9_isDue_119 : decode cX9_isDue 119 = .ok (.iconst 0, 1) := by decide +kernel
theorem dX9_isDue_120 : decode cX9_isDue 120 = .ok (.ireturn, 1) := by decide +kernel
theorem dX9_isDue_121 : decode cX9_isDue 121 = .ok (.iconst 1, 1) := by decide +kernel
theorem dX9_isDue_122 : decode cX9_isDue 122 = .ok (.ireturn, 1) := by decide +kernel
theorem dX9_soundingWithin_0 : decode cX9_soundingWithin 0 = .ok (.iconst 0, 1) := by decide +kernel
theorem dX9_soundingWithin_1 : decode cX9_soundingWithin 1 = .ok (.istore_n 3, 1) := by decide +kernel
theorem dX9_soundingWithin_2 : decode cX9_soundingWithin 2 = .ok (.iload_n 1, 1) := by decide +kernel
theorem dX9_soundingWithin_3 : decode cX9_soundingWithin 3 = .ok (.istore 4, 2) := by decide +kernel
theorem dX9_soundingWithin_5 : decode cX9_soundingWithin 5 = .ok (.iload 4, 2) := by decide +kernel
theorem dX9_soundingWithin_7 : decode cX9_soundingWithin 7 = .ok (.iload_n 2, 1) := by decide +kernel
theorem dX9_soundingWithin_8 : decode cX9_soundingWithin 8 = .ok (.if_icmp .gt 26, 3) := by decide +kernel
theorem dX9_soundingWithin_11 : decode cX9_soundingWithin 11 = .ok (.iload_n 3, 1) := by decide +kernel
theorem dX9_soundingWithin_12 : decode cX9_soundingWithin 12 = .ok (.aload_n 0, 1) := by decide +kernel
theorem dX9_soundingWithin_13 : decode cX9_soundingWithin 13 = .ok (.invokevirtual 147, 3) := by decide +kernel
theorem dX9_soundingWithin_16 : decode cX9_soundingWithin 16 = .ok (.if_icmp .eq 18, 3) := by decide +kernel
theorem dX9_soundingWithin_19 : decode cX9_soundingWithin 19 = .ok (.iload_n 3, 1) := by decide +kernel
theorem dX9_soundingWithin_20 : decode cX9_soundingWithin 20 = .ok (.aload_n 0, 1) := by decide +kernel
theorem dX9_soundingWithin_21 : decode cX9_soundingWithin 21 = .ok (.iload 4, 2) := by decide +kernel
theorem dX9_soundingWithin_23 : decode cX9_soundingWithin 23 = .ok (.invokevirtual 177, 3) := by decide +kernel
theorem dX9_soundingWithin_26 : decode cX9_soundingWithin 26 = .ok (.ior, 1) := by decide +kernel
theorem dX9_soundingWithin_27 : decode cX9_soundingWithin 27 = .ok (.istore_n 3, 1) := by decide +kernel
theorem dX9_soundingWithin_28 : decode cX9_soundingWithin 28 = .ok (.iinc 4 1, 3) := by decide +kernel
theorem dX9_soundingWithin_31 : decode cX9_soundingWithin 31 = .ok (.goto (-26), 3) := by decide +kernel
theorem dX9_soundingWithin_34 : decode cX9_soundingWithin 34 = .ok (.iload_n 3, 1) := by decide +kernel
theorem dX9_soundingWithin_35 : decode cX9_soundingWithin 35 = .ok (.ireturn, 1) := by decide +kernel
theorem dX9_levelAt_0 : decode cX9_levelAt 0 = .ok (.aload_n 0, 1) := by decide +kernel
theorem dX9_levelAt_1 : decode cX9_levelAt 1 = .ok (.getfield 38, 3) := by decide +kernel
theorem dX9_levelAt_4 : decode cX9_levelAt 4 = .ok (.iload_n 1, 1) := by decide +kernel
theorem dX9_levelAt_5 : decode cX9_levelAt 5 = .ok (.aaload, 1) := by decide +kernel
theorem dX9_levelAt_6 : decode cX9_levelAt 6 = .ok (.astore_n 3, 1) := by decide +kernel
theorem dX9_levelAt_7 : decode cX9_levelAt 7 = .ok (.aload_n 3, 1) := by decide +kernel
theorem dX9_levelAt_8 : decode cX9_levelAt 8 = .ok (.invokevirtual 180, 3) := by decide +kernel
theorem dX9_levelAt_11 : decode cX9_levelAt 11 = .ok (.ifCond .ne 8, 3) := by decide +kernel
theorem dX9_levelAt_14 : decode cX9_levelAt 14 = .ok (.aload_n 3, 1) := by decide +kernel
theorem dX9_levelAt_15 : decode cX9_levelAt 15 = .ok (.getfield 183, 3) := by decide +kernel
theorem dX9_levelAt_18 : decode cX9_levelAt 18 = .ok (.ireturn, 1) := by decide +kernel
theorem dX9_levelAt_19 : decode cX9_levelAt 19 = .ok (.aload_n 0, 1) := by decide +kernel
theorem dX9_levelAt_20 : decode cX9_levelAt 20 = .ok (.getfield 62, 3) := by decide +kernel
theorem dX9_levelAt_23 : decode cX9_levelAt 23 = .ok (.iload_n 2, 1) := by decide +kernel
theorem dX9_levelAt_24 : decode cX9_levelAt 24 = .ok (.iaload, 1) := by decide +kernel
theorem dX9_levelAt_25 : decode cX9_levelAt 25 = .ok (.ifCond .le 21, 3) := by decide +kernel
theorem dX9_levelAt_28 : decode cX9_levelAt 28 = .ok (.aload_n 3, 1) := by decide +kernel
theorem dX9_levelAt_29 : decode cX9_levelAt 29 = .ok (.getfield 111, 3) := by decide +kernel
theorem dX9_levelAt_32 : decode cX9_levelAt 32 = .ok (.aload_n 0, 1) := by decide +kernel
theorem dX9_levelAt_33 : decode cX9_levelAt 33 = .ok (.getfield 62, 3) := by decide +kernel
theorem dX9_levelAt_36 : decode cX9_levelAt 36 = .ok (.iload_n 2, 1) := by decide +kernel
theorem dX9_levelAt_37 : decode cX9_levelAt 37 = .ok (.iaload, 1) := by decide +kernel
theorem dX9_levelAt_38 : decode cX9_levelAt 38 = .ok (.irem, 1) := by decide +kernel
theorem dX9_levelAt_39 : decode cX9_levelAt 39 = .ok (.ifCond .ne 7, 3) := by decide +kernel
theorem dX9_levelAt_42 : decode cX9_levelAt 42 = .ok (.iconst 1, 1) := by decide +kernel
theorem dX9_levelAt_43 : decode cX9_levelAt 43 = .ok (.goto 4, 3) := by decide +kernel
theorem dX9_levelAt_46 : decode cX9_levelAt 46 = .ok (.iconst 0, 1) := by decide +kernel
theorem dX9_levelAt_47 : decode cX9_levelAt 47 = .ok (.istore 4, 2) := by decide +kernel
theorem dX9_levelAt_49 : decode cX9_levelAt 49 = .ok (.aload_n 3, 1) := by decide +kernel
theorem dX9_levelAt_50 : decode cX9_levelAt 50 = .ok (.aload_n 0, 1) := by decide +kernel
theorem dX9_levelAt_51 : decode cX9_levelAt 51 = .ok (.getfield 69, 3) := by decide +kernel
theorem dX9_levelAt_54 : decode cX9_levelAt 54 = .ok (.iconst 0, 1) := by decide +kernel
theorem dX9_levelAt_55 : decode cX9_levelAt 55 = .ok (.iaload, 1) := by decide +kernel
theorem dX9_levelAt_56 : decode cX9_levelAt 56 = .ok (.aload_n 3, 1) := by decide +kernel
theorem dX9_levelAt_57 : decode cX9_levelAt 57 = .ok (.getfield 144, 3) := by decide +kernel
theorem dX9_levelAt_60 : decode cX9_levelAt 60 = .ok (.iload_n 2, 1) := by decide +kernel
theorem dX9_levelAt_61 : decode cX9_levelAt 61 = .ok (.invokestatic 186, 3) := by decide +kernel
theorem dX9_levelAt_64 : decode cX9_levelAt 64 = .ok (.iload 4, 2) := by decide +kernel
theorem dX9_levelAt_66 : decode cX9_levelAt 66 = .ok (.invokevirtual 189, 3) := by decide +kernel
theorem dX9_levelAt_69 : decode cX9_levelAt 69 = .ok (.istore 5, 2) := by decide +kernel
theorem dX9_levelAt_71 : decode cX9_levelAt 71 = .ok (.iload 4, 2) := by decide +kernel
theorem dX9_levelAt_73 : decode cX9_levelAt 73 = .ok (.ifCond .eq 20, 3) := by decide +kernel
theorem dX9_levelAt_76 : decode cX9_levelAt 76 = .ok (.iload 5, 2) := by decide +kernel
theorem dX9_levelAt_78 : decode cX9_levelAt 78 = .ok (.ifCond .le 15, 3) := by decide +kernel
theorem dX9_levelAt_81 : decode cX9_levelAt 81 = .ok (.iload 5, 2) := by decide +kernel
theorem dX9_levelAt_83 : decode cX9_levelAt 83 = .ok (.aload_n 0, 1) := by decide +kernel
theorem dX9_levelAt_84 : decode cX9_levelAt 84 = .ok (.getfield 69, 3) := by decide +kernel
theorem dX9_levelAt_87 : decode cX9_levelAt 87 = .ok (.iconst 1, 1) := by decide +kernel
theorem dX9_levelAt_88 : decode cX9_levelAt 88 = .ok (.iaload, 1) := by decide +kernel
theorem dX9_levelAt_89 : decode cX9_levelAt 89 = .ok (.iadd, 1) := by decide +kernel
theorem dX9_levelAt_90 : decode cX9_levelAt 90 = .ok (.goto 5, 3) := by decide +kernel
theorem dX9_levelAt_93 : decode cX9_levelAt 93 = .ok (.iload 5, 2) := by decide +kernel
theorem dX9_levelAt_95 : decode cX9_levelAt 95 = .ok (.ireturn, 1) := by decide +kernel
theorem dX9_audibleTo_0 : decode cX9_audibleTo 0 = .ok (.iconst 0, 1) := by decide +kernel
theorem dX9_audibleTo_1 : decode cX9_audibleTo 1 = .ok (.istore_n 3, 1) := by decide +kernel
theorem dX9_audibleTo_2 : decode cX9_audibleTo 2 = .ok (.iconst 0, 1) := by decide +kernel
theorem dX9_audibleTo_3 : decode cX9_audibleTo 3 = .ok (.istore 4, 2) := by decide +kernel
theorem dX9_audibleTo_5 : decode cX9_audibleTo 5 = .ok (.iload 4, 2) := by decide +kernel
theorem dX9_audibleTo_7 : decode cX9_audibleTo 7 = .ok (.aload_n 0, 1) := by decide +kernel
theorem dX9_audibleTo_8 : decode cX9_audibleTo 8 = .ok (.getfield 18, 3) := by decide +kernel
theorem dX9_audibleTo_11 : decode cX9_audibleTo 11 = .ok (.if_icmp .ge 34, 3) := by decide +kernel
theorem dX9_audibleTo_14 : decode cX9_audibleTo 14 = .ok (.aload_n 0, 1) := by decide +kernel
theorem dX9_audibleTo_15 : decode cX9_audibleTo 15 = .ok (.iload_n 1, 1) := by decide +kernel
theorem dX9_audibleTo_16 : decode cX9_audibleTo 16 = .ok (.iload 4, 2) := by decide +kernel
theorem dX9_audibleTo_18 : decode cX9_audibleTo 18 = .ok (.aload_n 0, 1) := by decide +kernel
theorem dX9_audibleTo_19 : decode cX9_audibleTo 19 = .ok (.iload 4, 2) := by decide +kernel
theorem dX9_audibleTo_21 : decode cX9_audibleTo 21 = .ok (.iload_n 2, 1) := by decide +kernel
theorem dX9_audibleTo_22 : decode cX9_audibleTo 22 = .ok (.invokevirtual 193, 3) := by decide +kernel
theorem dX9_audibleTo_25 : decode cX9_audibleTo 25 = .ok (.invokevirtual 196, 3) := by decide +kernel
theorem dX9_audibleTo_28 : decode cX9_audibleTo 28 = .ok (.ifCond .eq 11, 3) := by decide +kernel
theorem dX9_audibleTo_31 : decode cX9_audibleTo 31 = .ok (.iload_n 3, 1) := by decide +kernel
theorem dX9_audibleTo_32 : decode cX9_audibleTo 32 = .ok (.iload 4, 2) := by decide +kernel
theorem dX9_audibleTo_34 : decode cX9_audibleTo 34 = .ok (.invokestatic 100, 3) := by decide +kernel
theorem dX9_audibleTo_37 : decode cX9_audibleTo 37 = .ok (.ior, 1) := by decide +kernel
theorem dX9_audibleTo_38 : decode cX9_audibleTo 38 = .ok (.istore_n 3, 1) := by decide +kernel
theorem dX9_audibleTo_39 : decode cX9_audibleTo 39 = .ok (.iinc 4 1, 3) := by decide +kernel
theorem dX9_audibleTo_42 : decode cX9_audibleTo 42 = .ok (.goto (-37), 3) := by decide +kernel
theorem dX9_audibleTo_45 : decode cX9_audibleTo 45 = .ok (.iload_n 3, 1) := by decide +kernel
theorem dX9_audibleTo_46 : decode cX9_audibleTo 46 = .ok (.ireturn, 1) := by decide +kernel
theorem dX9_isForEars_0 : decode cX9_isForEars 0 = .ok (.aload_n 0, 1) := by decide +kernel
theorem dX9_isForEars_1 : decode cX9_isForEars 1 = .ok (.getfield 38, 3) := by decide +kernel
theorem dX9_isForEars_4 : decode cX9_isForEars 4 = .ok (.iload_n 2, 1) := by decide +kernel
theorem dX9_isForEars_5 : decode cX9_isForEars 5 = .ok (.aaload, 1) := by decide +kernel
theorem dX9_isForEars_6 : decode cX9_isForEars 6 = .ok (.astore 4, 2) := by decide +kernel
theorem dX9_isForEars_8 : decode cX9_isForEars 8 = .ok (.aload 4, 2) := by decide +kernel
theorem dX9_isForEars_10 : decode cX9_isForEars 10 = .ok (.getfield 174, 3) := by decide +kernel
theorem dX9_isForEars_13 : decode cX9_isForEars 13 = .ok (.lookupswitch 52 #[(4, 27), (5, 42)], 27) := by decide +kernel
theorem dX9_isForEars_40 : decode cX9_isForEars 40 = .ok (.aload 4, 2) := by decide +kernel
theorem dX9_isForEars_42 : decode cX9_isForEars 42 = .ok (.getfield 144, 3) := by decide +kernel
theorem dX9_isForEars_45 : decode cX9_isForEars 45 = .ok (.iload_n 1, 1) := by decide +kernel
theorem dX9_isForEars_46 : decode cX9_isForEars 46 = .ok (.if_icmp .ne 7, 3) := by decide +kernel
theorem dX9_isForEars_49 : decode cX9_isForEars 49 = .ok (.iconst 1, 1) := by decide +kernel
theorem dX9_isForEars_50 : decode cX9_isForEars 50 = .ok (.goto 4, 3) := by decide +kernel
theorem dX9_isForEars_53 : decode cX9_isForEars 53 = .ok (.iconst 0, 1) := by decide +kernel
theorem dX9_isForEars_54 : decode cX9_isForEars 54 = .ok (.ireturn, 1) := by decide +kernel
theorem dX9_isForEars_55 : decode cX9_isForEars 55 = .ok (.aload_n 0, 1) := by decide +kernel
theorem dX9_isForEars_56 : decode cX9_isForEars 56 = .ok (.getfield 32, 3) := by decide +kernel
theorem dX9_isForEars_59 : decode cX9_isForEars 59 = .ok (.iload_n 1, 1) := by decide +kernel
theorem dX9_isForEars_60 : decode cX9_isForEars 60 = .ok (.aaload, 1) := by decide +kernel
theorem dX9_isForEars_61 : decode cX9_isForEars 61 = .ok (.getfield 199, 3) := by decide +kernel
theorem dX9_isForEars_64 : decode cX9_isForEars 64 = .ok (.ireturn, 1) := by decide +kernel
theorem dX9_isForEars_65 : decode cX9_isForEars 65 = .ok (.iload_n 3, 1) := by decide +kernel
theorem dX9_isForEars_66 : decode cX9_isForEars 66 = .ok (.ifCond .le 25, 3) := by decide +kernel
theorem dX9_isForEars_69 : decode cX9_isForEars 69 = .ok (.iload_n 3, 1) := by decide +kernel
theorem dX9_isForEars_70 : decode cX9_isForEars 70 = .ok (.aload_n 0, 1) := by decide +kernel
theorem dX9_isForEars_71 : decode cX9_isForEars 71 = .ok (.getfield 32, 3) := by decide +kernel
theorem dX9_isForEars_74 : decode cX9_isForEars 74 = .ok (.iload_n 1, 1) := by decide +kernel
theorem dX9_isForEars_75 : decode cX9_isForEars 75 = .ok (.aaload, 1) := by decide +kernel
theorem dX9_isForEars_76 : decode cX9_isForEars 76 = .ok (.aload 4, 2) := by decide +kernel
theorem dX9_isForEars_78 : decode cX9_isForEars 78 = .ok (.getfield 111, 3) := by decide +kernel
theorem dX9_isForEars_81 : decode cX9_isForEars 81 = .ok (.invokevirtual 203, 3) := by decide +kernel
theorem dX9_isForEars_84 : decode cX9_isForEars 84 = .ok (.if_icmp .lt 7, 3) := by decide +kernel
theorem dX9_isForEars_87 : decode cX9_isForEars 87 = .ok (.iconst 1, 1) := by decide +kernel
theorem dX9_isForEars_88 : decode cX9_isForEars 88 = .ok (.goto 4, 3) := by decide +kernel
theorem dX9_isForEars_91 : decode cX9_isForEars 91 = .ok (.iconst 0, 1) := by decide +kernel
theorem dX9_isForEars_92 : decode cX9_isForEars 92 = .ok (.ireturn, 1) := by decide +kernel
theorem dX9_heardBy_0 : decode cX9_heardBy 0 = .ok (.aload_n 0, 1) := by decide +kernel
theorem dX9_heardBy_1 : decode cX9_heardBy 1 = .ok (.iload_n 1, 1) := by decide +kernel
theorem dX9_heardBy_2 : decode cX9_heardBy 2 = .ok (.aload_n 0, 1) := by decide +kernel
theorem dX9_heardBy_3 : decode cX9_heardBy 3 = .ok (.getfield 32, 3) := by decide +kernel
theorem dX9_heardBy_6 : decode cX9_heardBy 6 = .ok (.iload_n 1, 1) := by decide +kernel
theorem dX9_heardBy_7 : decode cX9_heardBy 7 = .ok (.aaload, 1) := by decide +kernel
theorem dX9_heardBy_8 : decode cX9_heardBy 8 = .ok (.getfield 127, 3) := by decide +kernel
theorem dX9_heardBy_11 : decode cX9_heardBy 11 = .ok (.invokevirtual 206, 3) := by decide +kernel
theorem dX9_heardBy_14 : decode cX9_heardBy 14 = .ok (.aload_n 0, 1) := by decide +kernel
theorem dX9_heardBy_15 : decode cX9_heardBy 15 = .ok (.iload_n 2, 1) := by decide +kernel
theorem dX9_heardBy_16 : decode cX9_heardBy 16 = .ok (.invokevirtual 177, 3) := by decide +kernel
theorem dX9_heardBy_19 : decode cX9_heardBy 19 = .ok (.iand, 1) := by decide +kernel
theorem dX9_heardBy_20 : decode cX9_heardBy 20 = .ok (.ireturn, 1) := by decide +kernel
theorem dX9_loudestFor_0 : decode cX9_loudestFor 0 = .ok (.aload_n 0, 1) := by decide +kernel
theorem dX9_loudestFor_1 : decode cX9_loudestFor 1 = .ok (.iload_n 1, 1) := by decide +kernel
theorem dX9_loudestFor_2 : decode cX9_loudestFor 2 = .ok (.iload_n 2, 1) := by decide +kernel
theorem dX9_loudestFor_3 : decode cX9_loudestFor 3 = .ok (.invokevirtual 209, 3) := by decide +kernel
theorem dX9_loudestFor_6 : decode cX9_loudestFor 6 = .ok (.istore_n 3, 1) := by decide +kernel
theorem dX9_loudestFor_7 : decode cX9_loudestFor 7 = .ok (.iconst (-1), 1) := by decide +kernel
theorem dX9_loudestFor_8 : decode cX9_loudestFor 8 = .ok (.istore 4, 2) := by decide +kernel
theorem dX9_loudestFor_10 : decode cX9_loudestFor 10 = .ok (.iconst 0, 1) := by decide +kernel
theorem dX9_loudestFor_11 : decode cX9_loudestFor 11 = .ok (.istore 5, 2) := by decide +kernel
theorem dX9_loudestFor_13 : decode cX9_loudestFor 13 = .ok (.iconst 0, 1) := by decide +kernel
theorem dX9_loudestFor_14 : decode cX9_loudestFor 14 = .ok (.istore 6, 2) := by decide +kernel
theorem dX9_loudestFor_16 : decode cX9_loudestFor 16 = .ok (.iload 6, 2) := by decide +kernel
theorem dX9_loudestFor_18 : decode cX9_loudestFor 18 = .ok (.aload_n 0, 1) := by decide +kernel
theorem dX9_loudestFor_19 : decode cX9_loudestFor 19 = .ok (.getfield 18, 3) := by decide +kernel
theorem dX9_loudestFor_22 : decode cX9_loudestFor 22 = .ok (.if_icmp .ge 54, 3) := by decide +kernel
theorem dX9_loudestFor_25 : decode cX9_loudestFor 25 = .ok (.iload_n 3, 1) := by decide +kernel
theorem dX9_loudestFor_26 : decode cX9_loudestFor 26 = .ok (.iload 6, 2) := by decide +kernel
theorem dX9_loudestFor_28 : decode cX9_loudestFor 28 = .ok (.invokestatic 156, 3) := by decide +kernel
theorem dX9_loudestFor_31 : decode cX9_loudestFor 31 = .ok (.ifCond .eq 21, 3) := by decide +kernel
theorem dX9_loudestFor_34 : decode cX9_loudestFor 34 = .ok (.aload_n 0, 1) := by decide +kernel
theorem dX9_loudestFor_35 : decode cX9_loudestFor 35 = .ok (.iload 6, 2) := by decide +kernel
theorem dX9_loudestFor_37 : decode cX9_loudestFor 37 = .ok (.aload_n 0, 1) := by decide +kernel
theorem dX9_loudestFor_38 : decode cX9_loudestFor 38 = .ok (.getfield 32, 3) := by decide +kernel
theorem dX9_loudestFor_41 : decode cX9_loudestFor 41 = .ok (.iload_n 1, 1) := by decide +kernel
theorem dX9_loudestFor_42 : decode cX9_loudestFor 42 = .ok (.aaload, 1) := by decide +kernel
theorem dX9_loudestFor_43 : decode cX9_loudestFor 43 = .ok (.getfield 127, 3) := by decide +kernel
theorem dX9_loudestFor_46 : decode cX9_loudestFor 46 = .ok (.invokevirtual 193, 3) := by decide +kernel
theorem dX9_loudestFor_49 : decode cX9_loudestFor 49 = .ok (.goto 4, 3) := by decide +kernel
theorem dX9_loudestFor_52 : decode cX9_loudestFor 52 = .ok (.iconst 0, 1) := by decide +kernel
theorem dX9_loudestFor_53 : decode cX9_loudestFor 53 = .ok (.istore 7, 2) := by decide +kernel
theorem dX9_loudestFor_55 : decode cX9_loudestFor 55 = .ok (.iload 7, 2) := by decide +kernel
theorem dX9_loudestFor_57 : decode cX9_loudestFor 57 = .ok (.iload 5, 2) := by decide +kernel
theorem dX9_loudestFor_59 : decode cX9_loudestFor 59 = .ok (.if_icmp .le 11, 3) := by decide +kernel
theorem dX9_loudestFor_62 : decode cX9_loudestFor 62 = .ok (.iload 6, 2) := by decide +kernel
theorem dX9_loudestFor_64 : decode cX9_loudestFor 64 = .ok (.istore 4, 2) := by decide +kernel
theorem dX9_loudestFor_66 : decode cX9_loudestFor 66 = .ok (.iload 7, 2) := by decide +kernel
theorem dX9_loudestFor_68 : decode cX9_loudestFor 68 = .ok (.istore 5, 2) := by decide +kernel
theorem dX9_loudestFor_70 : decode cX9_loudestFor 70 = .ok (.iinc 6 1, 3) := by decide +kernel
theorem dX9_loudestFor_73 : decode cX9_loudestFor 73 = .ok (.goto (-57), 3) := by decide +kernel
theorem dX9_loudestFor_76 : decode cX9_loudestFor 76 = .ok (.iload 4, 2) := by decide +kernel
theorem dX9_loudestFor_78 : decode cX9_loudestFor 78 = .ok (.ireturn, 1) := by decide +kernel
theorem dX9_countBeats_0 : decode cX9_countBeats 0 = .ok (.iconst 0, 1) := by decide +kernel
theorem dX9_countBeats_1 : decode cX9_countBeats 1 = .ok (.istore_n 2, 1) := by decide +kernel
theorem dX9_countBeats_2 : decode cX9_countBeats 2 = .ok (.iconst 0, 1) := by decide +kernel
theorem dX9_countBeats_3 : decode cX9_countBeats 3 = .ok (.istore_n 3, 1) := by decide +kernel
theorem dX9_countBeats_4 : decode cX9_countBeats 4 = .ok (.iload_n 3, 1) := by decide +kernel
theorem dX9_countBeats_5 : decode cX9_countBeats 5 = .ok (.aload_n 0, 1) := by decide +kernel
theorem dX9_countBeats_6 : decode cX9_countBeats 6 = .ok (.getfield 18, 3) := by decide +kernel
theorem dX9_countBeats_9 : decode cX9_countBeats 9 = .ok (.if_icmp .ge 34, 3) := by decide +kernel
theorem dX9_countBeats_12 : decode cX9_countBeats 12 = .ok (.iload_n 1, 1) := by decide +kernel
theorem dX9_countBeats_13 : decode cX9_countBeats 13 = .ok (.iload_n 3, 1) := by decide +kernel
theorem dX9_countBeats_14 : decode cX9_countBeats 14 = .ok (.invokestatic 156, 3) := by decide +kernel
theorem dX9_countBeats_17 : decode cX9_countBeats 17 = .ok (.ifCond .eq 20, 3) := by decide +kernel
theorem dX9_countBeats_20 : decode cX9_countBeats 20 = .ok (.iload_n 2, 1) := by decide +kernel
theorem dX9_countBeats_21 : decode cX9_countBeats 21 = .ok (.iload_n 1, 1) := by decide +kernel
theorem dX9_countBeats_22 : decode cX9_countBeats 22 = .ok (.aload_n 0, 1) := by decide +kernel
theorem dX9_countBeats_23 : decode cX9_countBeats 23 = .ok (.getfield 38, 3) := by decide +kernel
theorem dX9_countBeats_26 : decode cX9_countBeats 26 = .ok (.iload_n 3, 1) := by decide +kernel
theorem dX9_countBeats_27 : decode cX9_countBeats 27 = .ok (.aaload, 1) := by decide +kernel
theorem dX9_countBeats_28 : decode cX9_countBeats 28 = .ok (.getfield 118, 3) := by decide +kernel
theorem dX9_countBeats_31 : decode cX9_countBeats 31 = .ok (.iand, 1) := by decide +kernel
theorem dX9_countBeats_32 : decode cX9_countBeats 32 = .ok (.invokestatic 212, 3) := by decide +kernel
theorem dX9_countBeats_35 : decode cX9_countBeats 35 = .ok (.iadd, 1) := by decide +kernel
theorem dX9_countBeats_36 : decode cX9_countBeats 36 = .ok (.istore_n 2, 1) := by decide +kernel
theorem dX9_countBeats_37 : decode cX9_countBeats 37 = .ok (.iinc 3 1, 3) := by decide +kernel
theorem dX9_countBeats_40 : decode cX9_countBeats 40 = .ok (.goto (-36), 3) := by decide +kernel
theorem dX9_countBeats_43 : decode cX9_countBeats 43 = .ok (.iload_n 2, 1) := by decide +kernel
theorem dX9_countBeats_44 : decode cX9_countBeats 44 = .ok (.iconst 2, 1) := by decide +kernel
theorem dX9_countBeats_45 : decode cX9_countBeats 45 = .ok (.idiv, 1) := by decide +kernel
theorem dX9_countBeats_46 : decode cX9_countBeats 46 = .ok (.ireturn, 1) := by decide +kernel
theorem dX9_airborne_0 : decode cX9_airborne 0 = .ok (.iconst 0, 1) := by decide +kernel
theorem dX9_airborne_1 : decode cX9_airborne 1 = .ok (.istore_n 1, 1) := by decide +kernel
theorem dX9_airborne_2 : decode cX9_airborne 2 = .ok (.iconst 0, 1) := by decide +kernel
theorem dX9_airborne_3 : decode cX9_airborne 3 = .ok (.istore_n 2, 1) := by decide +kernel
theorem dX9_airborne_4 : decode cX9_airborne 4 = .ok (.iload_n 2, 1) := by decide +kernel
theorem dX9_airborne_5 : decode cX9_airborne 5 = .ok (.aload_n 0, 1) := by decide +kernel
theorem dX9_airborne_6 : decode cX9_airborne 6 = .ok (.getfield 18, 3) := by decide +kernel
theorem dX9_airborne_9 : decode cX9_airborne 9 = .ok (.if_icmp .ge 28, 3) := by decide +kernel
theorem dX9_airborne_12 : decode cX9_airborne 12 = .ok (.aload_n 0, 1) := by decide +kernel
theorem dX9_airborne_13 : decode cX9_airborne 13 = .ok (.getfield 38, 3) := by decide +kernel
theorem dX9_airborne_16 : decode cX9_airborne 16 = .ok (.iload_n 2, 1) := by decide +kernel
theorem dX9_airborne_17 : decode cX9_airborne 17 = .ok (.aaload, 1) := by decide +kernel
theorem dX9_airborne_18 : decode cX9_airborne 18 = .ok (.invokevirtual 180, 3) := by decide +kernel
theorem dX9_airborne_21 : decode cX9_airborne 21 = .ok (.ifCond .eq 10, 3) := by decide +kernel
theorem dX9_airborne_24 : decode cX9_airborne 24 = .ok (.iload_n 1, 1) := by decide +kernel
theorem dX9_airborne_25 : decode cX9_airborne 25 = .ok (.iload_n 2, 1) := by decide +kernel
theorem dX9_airborne_26 : decode cX9_airborne 26 = .ok (.invokestatic 100, 3) := by decide +kernel
theorem dX9_airborne_29 : decode cX9_airborne 29 = .ok (.ior, 1) := by decide +kernel
theorem dX9_airborne_30 : decode cX9_airborne 30 = .ok (.istore_n 1, 1) := by decide +kernel
theorem dX9_airborne_31 : decode cX9_airborne 31 = .ok (.iinc 2 1, 3) := by decide +kernel
theorem dX9_airborne_34 : decode cX9_airborne 34 = .ok (.goto (-30), 3) := by decide +kernel
theorem dX9_airborne_37 : decode cX9_airborne 37 = .ok (.iload_n 1, 1) := by decide +kernel
theorem dX9_airborne_38 : decode cX9_airborne 38 = .ok (.ireturn, 1) := by decide +kernel
theorem dX9_nearTo_0 : decode cX9_nearTo 0 = .ok (.iconst 0, 1) := by decide +kernel
theorem dX9_nearTo_1 : decode cX9_nearTo 1 = .ok (.istore_n 2, 1) := by decide +kernel
theorem dX9_nearTo_2 : decode cX9_nearTo 2 = .ok (.iconst 0, 1) := by decide +kernel
theorem dX9_nearTo_3 : decode cX9_nearTo 3 = .ok (.istore_n 3, 1) := by decide +kernel
theorem dX9_nearTo_4 : decode cX9_nearTo 4 = .ok (.iload_n 3, 1) := by decide +kernel
theorem dX9_nearTo_5 : decode cX9_nearTo 5 = .ok (.aload_n 0, 1) := by decide +kernel
theorem dX9_nearTo_6 : decode cX9_nearTo 6 = .ok (.getfield 18, 3) := by decide +kernel
theorem dX9_nearTo_9 : decode cX9_nearTo 9 = .ok (.if_icmp .ge 39, 3) := by decide +kernel
theorem dX9_nearTo_12 : decode cX9_nearTo 12 = .ok (.iload_n 1, 1) := by decide +kernel
theorem dX9_nearTo_13 : decode cX9_nearTo 13 = .ok (.aload_n 0, 1) := by decide +kernel
theorem dX9_nearTo_14 : decode cX9_nearTo 14 = .ok (.getfield 38, 3) := by decide +kernel
theorem dX9_nearTo_17 : decode cX9_nearTo 17 = .ok (.iload_n 3, 1) := by decide +kernel
theorem dX9_nearTo_18 : decode cX9_nearTo 18 = .ok (.aaload, 1) := by decide +kernel
theorem dX9_nearTo_19 : decode cX9_nearTo 19 = .ok (.getfield 111, 3) := by decide +kernel
theorem dX9_nearTo_22 : decode cX9_nearTo 22 = .ok (.isub, 1) := by decide +kernel
theorem dX9_nearTo_23 : decode cX9_nearTo 23 = .ok (.invokestatic 217, 3) := by decide +kernel
theorem dX9_nearTo_26 : decode cX9_nearTo 26 = .ok (.aload_n 0, 1) := by decide +kernel
theorem dX9_nearTo_27 : decode cX9_nearTo 27 = .ok (.getfield 69, 3) := by decide +kernel
theorem dX9_nearTo_30 : decode cX9_nearTo 30 = .ok (.iconst 4, 1) := by decide +kernel
theorem dX9_nearTo_31 : decode cX9_nearTo 31 = .ok (.iaload, 1) := by decide +kernel
theorem dX9_nearTo_32 : decode cX9_nearTo 32 = .ok (.if_icmp .gt 10, 3) := by decide +kernel
theorem dX9_nearTo_35 : decode cX9_nearTo 35 = .ok (.iload_n 2, 1) := by decide +kernel
theorem dX9_nearTo_36 : decode cX9_nearTo 36 = .ok (.iload_n 3, 1) := by decide +kernel
theorem dX9_nearTo_37 : decode cX9_nearTo 37 = .ok (.invokestatic 100, 3) := by decide +kernel
theorem dX9_nearTo_40 : decode cX9_nearTo 40 = .ok (.ior, 1) := by decide +kernel
theorem dX9_nearTo_41 : decode cX9_nearTo 41 = .ok (.istore_n 2, 1) := by decide +kernel
theorem dX9_nearTo_42 : decode cX9_nearTo 42 = .ok (.iinc 3 1, 3) := by decide +kernel
theorem dX9_nearTo_45 : decode cX9_nearTo 45 = .ok (.goto (-41), 3) := by decide +kernel
theorem dX9_nearTo_48 : decode cX9_nearTo 48 = .ok (.iload_n 2, 1) := by decide +kernel
theorem dX9_nearTo_49 : decode cX9_nearTo 49 = .ok (.ireturn, 1) := by decide +kernel
theorem dX9_lackOf_0 : decode cX9_lackOf 0 = .ok (.aload_n 0, 1) := by decide +kernel
theorem dX9_lackOf_1 : decode cX9_lackOf 1 = .ok (.getfield 32, 3) := by decide +kernel
theorem dX9_lackOf_4 : decode cX9_lackOf 4 = .ok (.iload_n 1, 1) := by decide +kernel
theorem dX9_lackOf_5 : decode cX9_lackOf 5 = .ok (.aaload, 1) := by decide +kernel
theorem dX9_lackOf_6 : decode cX9_lackOf 6 = .ok (.astore_n 2, 1) := by decide +kernel
theorem dX9_lackOf_7 : decode cX9_lackOf 7 = .ok (.iconst (-1), 1) := by decide +kernel
theorem dX9_lackOf_8 : decode cX9_lackOf 8 = .ok (.istore_n 3, 1) := by decide +kernel
theorem dX9_lackOf_9 : decode cX9_lackOf 9 = .ok (.iconst 0, 1) := by decide +kernel
theorem dX9_lackOf_10 : decode cX9_lackOf 10 = .ok (.istore 4, 2) := by decide +kernel
theorem dX9_lackOf_12 : decode cX9_lackOf 12 = .ok (.iload 4, 2) := by decide +kernel
theorem dX9_lackOf_14 : decode cX9_lackOf 14 = .ok (.aload_n 0, 1) := by decide +kernel
theorem dX9_lackOf_15 : decode cX9_lackOf 15 = .ok (.getfield 18, 3) := by decide +kernel
theorem dX9_lackOf_18 : decode cX9_lackOf 18 = .ok (.if_icmp .ge 70, 3) := by decide +kernel
theorem dX9_lackOf_21 : decode cX9_lackOf 21 = .ok (.aload_n 0, 1) := by decide +kernel
theorem dX9_lackOf_22 : decode cX9_lackOf 22 = .ok (.getfield 38, 3) := by decide +kernel
theorem dX9_lackOf_25 : decode cX9_lackOf 25 = .ok (.iload 4, 2) := by decide +kernel
theorem dX9_lackOf_27 : decode cX9_lackOf 27 = .ok (.aaload, 1) := by decide +kernel
theorem dX9_lackOf_28 : decode cX9_lackOf 28 = .ok (.invokevirtual 180, 3) := by decide +kernel
theorem dX9_lackOf_31 : decode cX9_lackOf 31 = .ok (.ifCond .eq 51, 3) := by decide +kernel
theorem dX9_lackOf_34 : decode cX9_lackOf 34 = .ok (.iconst 0, 1) := by decide +kernel
theorem dX9_lackOf_35 : decode cX9_lackOf 35 = .ok (.aload_n 2, 1) := by decide +kernel
theorem dX9_lackOf_36 : decode cX9_lackOf 36 = .ok (.aload_n 0, 1) := by decide +kernel
theorem dX9_lackOf_37 : decode cX9_lackOf 37 = .ok (.getfield 38, 3) := by decide +kernel
theorem dX9_lackOf_40 : decode cX9_lackOf 40 = .ok (.iload 4, 2) := by decide +kernel
theorem dX9_lackOf_42 : decode cX9_lackOf 42 = .ok (.aaload, 1) := by decide +kernel
theorem dX9_lackOf_43 : decode cX9_lackOf 43 = .ok (.getfield 111, 3) := by decide +kernel
theorem dX9_lackOf_46 : decode cX9_lackOf 46 = .ok (.invokevirtual 203, 3) := by decide +kernel
theorem dX9_lackOf_49 : decode cX9_lackOf 49 = .ok (.aload_n 0, 1) := by decide +kernel
theorem dX9_lackOf_50 : decode cX9_lackOf 50 = .ok (.iload 4, 2) := by decide +kernel
theorem dX9_lackOf_52 : decode cX9_lackOf 52 = .ok (.aload_n 2, 1) := by decide +kernel
theorem dX9_lackOf_53 : decode cX9_lackOf 53 = .ok (.getfield 127, 3) := by decide +kernel
theorem dX9_lackOf_56 : decode cX9_lackOf 56 = .ok (.invokevirtual 193, 3) := by decide +kernel
theorem dX9_lackOf_59 : decode cX9_lackOf 59 = .ok (.isub, 1) := by decide +kernel
theorem dX9_lackOf_60 : decode cX9_lackOf 60 = .ok (.invokestatic 222, 3) := by decide +kernel
theorem dX9_lackOf_63 : decode cX9_lackOf 63 = .ok (.istore 5, 2) := by decide +kernel
theorem dX9_lackOf_65 : decode cX9_lackOf 65 = .ok (.iload_n 3, 1) := by decide +kernel
theorem dX9_lackOf_66 : decode cX9_lackOf 66 = .ok (.iconst (-1), 1) := by decide +kernel
theorem dX9_lackOf_67 : decode cX9_lackOf 67 = .ok (.if_icmp .ne 8, 3) := by decide +kernel
theorem dX9_lackOf_70 : decode cX9_lackOf 70 = .ok (.iload 5, 2) := by decide +kernel
theorem dX9_lackOf_72 : decode cX9_lackOf 72 = .ok (.goto 9, 3) := by decide +kernel
theorem dX9_lackOf_75 : decode cX9_lackOf 75 = .ok (.iload_n 3, 1) := by decide +kernel
theorem dX9_lackOf_76 : decode cX9_lackOf 76 = .ok (.iload 5, 2) := by decide +kernel
theorem dX9_lackOf_78 : decode cX9_lackOf 78 = .ok (.invokestatic 225, 3) := by decide +kernel
theorem dX9_lackOf_81 : decode cX9_lackOf 81 = .ok (.istore_n 3, 1) := by decide +kernel
theorem dX9_lackOf_82 : decode cX9_lackOf 82 = .ok (.iinc 4 1, 3) := by decide +kernel
theorem dX9_lackOf_85 : decode cX9_lackOf 85 = .ok (.goto (-73), 3) := by decide +kernel
theorem dX9_lackOf_88 : decode cX9_lackOf 88 = .ok (.iload_n 3, 1) := by decide +kernel
theorem dX9_lackOf_89 : decode cX9_lackOf 89 = .ok (.ireturn, 1) := by decide +kernel
theorem dX9_countLetters_0 : decode cX9_countLetters 0 = .ok (.iconst 0, 1) := by decide +kernel
theorem dX9_countLetters_1 : decode cX9_countLetters 1 = .ok (.istore_n 2, 1) := by decide +kernel
theorem dX9_countLetters_2 : decode cX9_countLetters 2 = .ok (.iconst 0, 1) := by decide +kernel
theorem dX9_countLetters_3 : decode cX9_countLetters 3 = .ok (.istore_n 3, 1) := by decide +kernel
theorem dX9_countLetters_4 : decode cX9_countLetters 4 = .ok (.iload_n 3, 1) := by decide +kernel
theorem dX9_countLetters_5 : decode cX9_countLetters 5 = .ok (.aload_n 0, 1) := by decide +kernel
theorem dX9_countLetters_6 : decode cX9_countLetters 6 = .ok (.getfield 58, 3) := by decide +kernel
theorem dX9_countLetters_9 : decode cX9_countLetters 9 = .ok (.getfield 228, 3) := by decide +kernel
theorem dX9_countLetters_12 : decode cX9_countLetters 12 = .ok (.if_icmp .ge 122, 3) := by decide +kernel
theorem dX9_countLetters_15 : decode cX9_countLetters 15 = .ok (.aload_n 0, 1) := by decide +kernel
theorem dX9_countLetters_16 : decode cX9_countLetters 16 = .ok (.getfield 58, 3) := by decide +kernel
theorem dX9_countLetters_19 : decode cX9_countLetters 19 = .ok (.getfield 231, 3) := by decide +kernel
theorem dX9_countLetters_22 : decode cX9_countLetters 22 = .ok (.iload_n 3, 1) := by decide +kernel
theorem dX9_countLetters_23 : decode cX9_countLetters 23 = .ok (.iaload, 1) := by decide +kernel
theorem dX9_countLetters_24 : decode cX9_countLetters 24 = .ok (.aload_n 0, 1) := by decide +kernel
theorem dX9_countLetters_25 : decode cX9_countLetters 25 = .ok (.getfield 69, 3) := by decide +kernel
theorem dX9_countLetters_28 : decode cX9_countLetters 28 = .ok (.iconst 5, 1) := by decide +kernel
theorem dX9_countLetters_29 : decode cX9_countLetters 29 = .ok (.iaload, 1) := by decide +kernel
theorem dX9_countLetters_30 : decode cX9_countLetters 30 = .ok (.if_icmp .lt 7, 3) := by decide +kernel
theorem dX9_countLetters_33 : decode cX9_countLetters 33 = .ok (.iconst 1, 1) := by decide +kernel
theorem dX9_countLetters_34 : decode cX9_countLetters 34 = .ok (.goto 4, 3) := by decide +kernel
theorem dX9_countLetters_37 : decode cX9_countLetters 37 = .ok (.iconst 0, 1) := by decide +kernel
theorem dX9_countLetters_38 : decode cX9_countLetters 38 = .ok (.istore 4, 2) := by decide +kernel
theorem dX9_countLetters_40 : decode cX9_countLetters 40 = .ok (.iload_n 1, 1) := by decide +kernel
theorem dX9_countLetters_41 : decode cX9_countLetters 41 = .ok (.iconst 1, 1) := by decide +kernel
theorem dX9_countLetters_42 : decode cX9_countLetters 42 = .ok (.if_icmp .ne 36, 3) := by decide +kernel
theorem dX9_countLetters_45 : decode cX9_countLetters 45 = .ok (.iload 4, 2) := by decide +kernel
theorem dX9_countLetters_47 : decode cX9_countLetters 47 = .ok (.ifCond .eq 25, 3) := by decide +kernel
theorem dX9_countLetters_50 : decode cX9_countLetters 50 = .ok (.aload_n 0, 1) := by decide +kernel
theorem dX9_countLetters_51 : decode cX9_countLetters 51 = .ok (.getfield 58, 3) := by decide +kernel
theorem dX9_countLetters_54 : decode cX9_countLetters 54 = .ok (.getfield 234, 3) := by decide +kernel
theorem dX9_countLetters_57 : decode cX9_countLetters 57 = .ok (.iload_n 3, 1) := by decide +kernel
theorem dX9_countLetters_58 : decode cX9_countLetters 58 = .ok (.iaload, 1) := by decide +kernel
theorem dX9_countLetters_59 : decode cX9_countLetters 59 = .ok (.aload_n 0, 1) := by decide +kernel
theorem dX9_countLetters_60 : decode cX9_countLetters 60 = .ok (.getfield 69, 3) := by decide +kernel
theorem dX9_countLetters_63 : decode cX9_countLetters 63 = .ok (.iconst 5, 1) := by decide +kernel
theorem dX9_countLetters_64 : decode cX9_countLetters 64 = .ok (.iaload, 1) := by decide +kernel
theorem dX9_countLetters_65 : decode cX9_countLetters 65 = .ok (.if_icmp .ge 7, 3) := by decide +kernel
theorem dX9_countLetters_68 : decode cX9_countLetters 68 = .ok (.iconst 1, 1) := by decide +kernel
theorem dX9_countLetters_69 : decode cX9_countLetters 69 = .ok (.goto 4, 3) := by decide +kernel
theorem dX9_countLetters_72 : decode cX9_countLetters 72 = .ok (.iconst 0, 1) := by decide +kernel
theorem dX9_countLetters_73 : decode cX9_countLetters 73 = .ok (.istore 4, 2) := by decide +kernel
theorem dX9_countLetters_75 : decode cX9_countLetters 75 = .ok (.goto 45, 3) := by decide +kernel
theorem dX9_countLetters_78 : decode cX9_countLetters 78 = .ok (.iload_n 1, 1) := by decide +kernel
theorem dX9_countLetters_79 : decode cX9_countLetters 79 = .ok (.iconst 2, 1) := by decide +kernel
theorem dX9_countLetters_80 : decode cX9_countLetters 80 = .ok (.if_icmp .ne 40, 3) := by decide +kernel
theorem dX9_countLetters_83 : decode cX9_countLetters 83 = .ok (.iload 4, 2) := by decide +kernel
theorem dX9_countLetters_85 : decode cX9_countLetters 85 = .ok (.ifCond .eq 32, 3) := by decide +kernel
theorem dX9_countLetters_88 : decode cX9_countLetters 88 = .ok (.aload_n 0, 1) := by decide +kernel
theorem dX9_countLetters_89 : decode cX9_countLetters 89 = .ok (.aload_n 0, 1) := by decide +kernel
theorem dX9_countLetters_90 : decode cX9_countLetters 90 = .ok (.getfield 58, 3) := by decide +kernel
theorem dX9_countLetters_93 : decode cX9_countLetters 93 = .ok (.getfield 237, 3) := by decide +kernel
theorem dX9_countLetters_96 : decode cX9_countLetters 96 = .ok (.iload_n 3, 1) := by decide +kernel
theorem dX9_countLetters_97 : decode cX9_countLetters 97 = .ok (.iaload, 1) := by decide +kernel
theorem dX9_countLetters_98 : decode cX9_countLetters 98 = .ok (.aload_n 0, 1) := by decide +kernel
theorem dX9_countLetters_99 : decode cX9_countLetters 99 = .ok (.getfield 58, 3) := by decide +kernel
theorem dX9_countLetters_102 : decode cX9_countLetters 102 = .ok (.getfield 231, 3) := by decide +kernel
theorem dX9_countLetters_105 : decode cX9_countLetters 105 = .ok (.iload_n 3, 1) := by decide +kernel
theorem dX9_countLetters_106 : decode cX9_countLetters 106 = .ok (.iaload, 1) := by decide +kernel
theorem dX9_countLetters_107 : decode cX9_countLetters 107 = .ok (.invokevirtual 209, 3) := by decide +kernel
theorem dX9_countLetters_110 : decode cX9_countLetters 110 = .ok (.ifCond .ne 7, 3) := by decide +kernel
theorem dX9_countLetters_113 : decode cX9_countLetters 113 = .ok (.iconst 1, 1) := by decide +kernel
theorem dX9_countLetters_114 : decode cX9_countLetters 114 = .ok (.goto 4, 3) := by decide +kernel
theorem dX9_countLetters_117 : decode cX9_countLetters 117 = .ok (.iconst 0, 1) := by decide +kernel
theorem dX9_countLetters_118 : decode cX9_countLetters 118 = .ok (.istore 4, 2) := by decide +kernel
theorem dX9_countLetters_120 : decode cX9_countLetters 120 = .ok (.iload 4, 2) := by decide +kernel
theorem dX9_countLetters_122 : decode cX9_countLetters 122 = .ok (.ifCond .eq 6, 3) := by decide +kernel
theorem dX9_countLetters_125 : decode cX9_countLetters 125 = .ok (.iinc 2 1, 3) := by decide +kernel
theorem dX9_countLetters_128 : decode cX9_countLetters 128 = .ok (.iinc 3 1, 3) := by decide +kernel
theorem dX9_countLetters_131 : decode cX9_countLetters 131 = .ok (.goto (-127), 3) := by decide +kernel
theorem dX9_countLetters_134 : decode cX9_countLetters 134 = .ok (.iload_n 2, 1) := by decide +kernel
theorem dX9_countLetters_135 : decode cX9_countLetters 135 = .ok (.ireturn, 1) := by decide +kernel
theorem dX10_init_0 : decode cX10_init 0 = .ok (.aload_n 0, 1) := by decide +kernel
theorem dX10_init_1 : decode cX10_init 1 = .ok (.invokespecial 3, 3) := by decide +kernel
theorem dX10_init_4 : decode cX10_init 4 = .ok (.aload_n 0, 1) := by decide +kernel
theorem dX10_init_5 : decode cX10_init 5 = .ok (.bipush 8, 2) := by decide +kernel
theorem dX10_init_7 : decode cX10_init 7 = .ok (.anewarray 9, 3) := by decide +kernel
theorem dX10_init_10 : decode cX10_init 10 = .ok (.putfield 11, 3) := by decide +kernel
theorem dX10_init_13 : decode cX10_init 13 = .ok (.aload_n 0, 1) := by decide +kernel
theorem dX10_init_14 : decode cX10_init 14 = .ok (.new 15, 3) := by decide +kernel
theorem dX10_init_17 : decode cX10_init 17 = .ok (.dup, 1) := by decide +kernel
theorem dX10_init_18 : decode cX10_init 18 = .ok (.invokespecial 17, 3) := by decide +kernel
theorem dX10_init_21 : decode cX10_init 21 = .ok (.putfield 18, 3) := by decide +kernel
theorem dX10_init_24 : decode cX10_init 24 = .ok (.aload_n 0, 1) := by decide +kernel
theorem dX10_init_25 : decode cX10_init 25 = .ok (.aload_n 0, 1) := by decide +kernel
theorem dX10_init_26 : decode cX10_init 26 = .ok (.getfield 18, 3) := by decide +kernel
theorem dX10_init_29 : decode cX10_init 29 = .ok (.getfield 22, 3) := by decide +kernel
theorem dX10_init_32 : decode cX10_init 32 = .ok (.putfield 26, 3) := by decide +kernel
theorem dX10_init_35 : decode cX10_init 35 = .ok (.aload_n 0, 1) := by decide +kernel
theorem dX10_init_36 : decode cX10_init 36 = .ok (.new 27, 3) := by decide +kernel
theorem dX10_init_39 : decode cX10_init 39 = .ok (.dup, 1) := by decide +kernel
theorem dX10_init_40 : decode cX10_init 40 = .ok (.invokespecial 29, 3) := by decide +kernel
theorem dX10_init_43 : decode cX10_init 43 = .ok (.putfield 30, 3) := by decide +kernel
theorem dX10_init_46 : decode cX10_init 46 = .ok (.aload_n 0, 1) := by decide +kernel
theorem dX10_init_47 : decode cX10_init 47 = .ok (.new 33, 3) := by decide +kernel
theorem dX10_init_50 : decode cX10_init 50 = .ok (.dup, 1) := by decide +kernel
theorem dX10_init_51 : decode cX10_init 51 = .ok (.invokespecial 35, 3) := by decide +kernel
theorem dX10_init_54 : decode cX10_init 54 = .ok (.putfield 36, 3) := by decide +kernel
theorem dX10_init_57 : decode cX10_init 57 = .ok (.aload_n 0, 1) := by decide +kernel
theorem dX10_init_58 : decode cX10_init 58 = .ok (.new 40, 3) := by decide +kernel
theorem dX10_init_61 : decode cX10_init 61 = .ok (.dup, 1) := by decide +kernel
theorem dX10_init_62 : decode cX10_init 62 = .ok (.invokespecial 42, 3) := by decide +kernel
theorem dX10_init_65 : decode cX10_init 65 = .ok (.putfield 43, 3) := by decide +kernel
theorem dX10_init_68 : decode cX10_init 68 = .ok (.aload_n 0, 1) := by decide +kernel
theorem dX10_init_69 : decode cX10_init 69 = .ok (.bipush 8, 2) := by decide +kernel
theorem dX10_init_71 : decode cX10_init 71 = .ok (.newarray .int, 2) := by decide +kernel
theorem dX10_init_73 : decode cX10_init 73 = .ok (.putfield 47, 3) := by decide +kernel
theorem dX10_init_76 : decode cX10_init 76 = .ok (.aload_n 0, 1) := by decide +kernel
theorem dX10_init_77 : decode cX10_init 77 = .ok (.iconst 0, 1) := by decide +kernel
theorem dX10_init_78 : decode cX10_init 78 = .ok (.putfield 51, 3) := by decide +kernel
theorem dX10_init_81 : decode cX10_init 81 = .ok (.iconst 0, 1) := by decide +kernel
theorem dX10_init_82 : decode cX10_init 82 = .ok (.istore_n 1, 1) := by decide +kernel
theorem dX10_init_83 : decode cX10_init 83 = .ok (.iload_n 1, 1) := by decide +kernel
theorem dX10_init_84 : decode cX10_init 84 = .ok (.bipush 8, 2) := by decide +kernel
theorem dX10_init_86 : decode cX10_init 86 = .ok (.if_icmp .ge 22, 3) := by decide +kernel
theorem dX10_init_89 : decode cX10_init 89 = .ok (.aload_n 0, 1) := by decide +kernel
theorem dX10_init_90 : decode cX10_init 90 = .ok (.getfield 11, 3) := by decide +kernel
theorem dX10_init_93 : decode cX10_init 93 = .ok (.iload_n 1, 1) := by decide +kernel
theorem dX10_init_94 : decode cX10_init 94 = .ok (.new 9, 3) := by decide +kernel
theorem dX10_init_97 : decode cX10_init 97 = .ok (.dup, 1) := by decide +kernel
theorem dX10_init_98 : decode cX10_init 98 = .ok (.invokespecial 55, 3) := by decide +kernel
theorem dX10_init_101 : decode cX10_init 101 = .ok (.aastore, 1) := by decide +kernel
theorem dX10_init_102 : decode cX10_init 102 = .ok (.iinc 1 1, 3) := by decide +kernel
theorem dX10_init_105 : decode cX10_init 105 = .ok (.goto (-22), 3) := by decide +kernel
theorem dX10_init_108 : decode cX10_init 108 = .ok (.return_, 1) := by decide +kernel
theorem dX10_row_0 : decode cX10_row 0 = .ok (.iload_n 1, 1) := by decide +kernel
theorem dX10_row_1 : decode cX10_row 1 = .ok (.invokestatic 56, 3) := by decide +kernel
theorem dX10_row_4 : decode cX10_row 4 = .ok (.ifCond .ne 9, 3) := by decide +kernel
theorem dX10_row_7 : decode cX10_row 7 = .ok (.aload_n 0, 1) := by decide +kernel
theorem dX10_row_8 : decode cX10_row 8 = .ok (.iconst (-1), 1) := by decide +kernel
theorem dX10_row_9 : decode cX10_row 9 = .ok (.invokevirtual 60, 3) := by decide +kernel
theorem dX10_row_12 : decode cX10_row 12 = .ok (.ireturn, 1) := by decide +kernel
theorem dX10_row_13 : decode cX10_row 13 = .ok (.iload_n 3, 1) := by decide +kernel
theorem dX10_row_14 : decode cX10_row 14 = .ok (.ifCond .ge 10, 3) := by decide +kernel
theorem dX10_row_17 : decode cX10_row 17 = .ok (.aload_n 0, 1) := by decide +kernel
theorem dX10_row_18 : decode cX10_row 18 = .ok (.bipush (-4), 2) := by decide +kernel
theorem dX10_row_20 : decode cX10_row 20 = .ok (.invokevirtual 60, 3) := by decide +kernel
theorem dX10_row_23 : decode cX10_row 23 = .ok (.ireturn, 1) := by decide +kernel
theorem dX10_row_24 : decode cX10_row 24 = .ok (.iload_n 2, 1) := by decide +kernel
theorem dX10_row_25 : decode cX10_row 25 = .ok (.ifCond .lt 8, 3) := by decide +kernel
theorem dX10_row_28 : decode cX10_row 28 = .ok (.iload_n 2, 1) := by decide +kernel
theorem dX10_row_29 : decode cX10_row 29 = .ok (.iconst 3, 1) := by decide +kernel
theorem dX10_row_30 : decode cX10_row 30 = .ok (.if_icmp .le 10, 3) := by decide +kernel
theorem dX10_row_33 : decode cX10_row 33 = .ok (.aload_n 0, 1) := by decide +kernel
theorem dX10_row_34 : decode cX10_row 34 = .ok (.bipush (-6), 2) := by decide +kernel
theorem dX10_row_36 : decode cX10_row 36 = .ok (.invokevirtual 60, 3) := by decide +kernel
theorem dX10_row_39 : decode cX10_row 39 = .ok (.ireturn, 1) := by decide +kernel
theorem dX10_row_40 : decode cX10_row 40 = .ok (.iload_n 3, 1) := by decide +kernel
theorem dX10_row_41 : decode cX10_row 41 = .ok (.bipush 60, 2) := by decide +kernel
theorem dX10_row_43 : decode cX10_row 43 = .ok (.if_icmp .le 10, 3) := by decide +kernel
theorem dX10_row_46 : decode cX10_row 46 = .ok (.aload_n 0, 1) := by decide +kernel
theorem dX10_row_47 : decode cX10_row 47 = .ok (.bipush (-7), 2) := by decide +kernel
theorem dX10_row_49 : decode cX10_row 49 = .ok (.invokevirtual 60, 3) := by decide +kernel
theorem dX10_row_52 : decode cX10_row 52 = .ok (.ireturn, 1) := by decide +kernel
theorem dX10_row_53 : decode cX10_row 53 = .ok (.aload_n 0, 1) := by decide +kernel
theorem dX10_row_54 : decode cX10_row 54 = .ok (.getfield 11, 3) := by decide +kernel
theorem dX10_row_57 : decode cX10_row 57 = .ok (.iload_n 1, 1) := by decide +kernel
theorem dX10_row_58 : decode cX10_row 58 = .ok (.aaload, 1) := by decide +kernel
theorem dX10_row_59 : decode cX10_row 59 = .ok (.iload_n 2, 1) := by decide +kernel
theorem dX10_row_60 : decode cX10_row 60 = .ok (.iload_n 3, 1) := by decide +kernel
theorem dX10_row_61 : decode cX10_row 61 = .ok (.invokevirtual 64, 3) := by decide +kernel
theorem dX10_row_64 : decode cX10_row 64 = .ok (.iconst 1, 1) := by decide +kernel
theorem dX10_row_65 : decode cX10_row 65 = .ok (.ireturn, 1) := by decide +kernel
theorem dX10_set_0 : decode cX10_set 0 = .ok (.aload_n 0, 1) := by decide +kernel
theorem dX10_set_1 : decode cX10_set 1 = .ok (.iload_n 1, 1) := by decide +kernel
theorem dX10_set_2 : decode cX10_set 2 = .ok (.invokevirtual 68, 3) := by decide +kernel
theorem dX10_set_5 : decode cX10_set 5 = .ok (.istore 5, 2) := by decide +kernel
theorem dX10_set_7 : decode cX10_set 7 = .ok (.iload 5, 2) := by decide +kernel
theorem dX10_set_9 : decode cX10_set 9 = .ok (.ifCond .eq 10, 3) := by decide +kernel
theorem dX10_set_12 : decode cX10_set 12 = .ok (.aload_n 0, 1) := by decide +kernel
theorem dX10_set_13 : decode cX10_set 13 = .ok (.iload 5, 2) := by decide +kernel
theorem dX10_set_15 : decode cX10_set 15 = .ok (.invokevirtual 60, 3) := by decide +kernel
theorem dX10_set_18 : decode cX10_set 18 = .ok (.ireturn, 1) := by decide +kernel
theorem dX10_set_19 : decode cX10_set 19 = .ok (.aload_n 0, 1) := by decide +kernel
theorem dX10_set_20 : decode cX10_set 20 = .ok (.getfield 11, 3) := by decide +kernel
theorem dX10_set_23 : decode cX10_set 23 = .ok (.iload_n 1, 1) := by decide +kernel
theorem dX10_set_24 : decode cX10_set 24 = .ok (.aaload, 1) := by decide +kernel
theorem dX10_set_25 : decode cX10_set 25 = .ok (.iload_n 2, 1) := by decide +kernel
theorem dX10_set_26 : decode cX10_set 26 = .ok (.invokevirtual 71, 3) := by decide +kernel
theorem dX10_set_29 : decode cX10_set 29 = .ok (.ifCond .ne 10, 3) := by decide +kernel
theorem dX10_set_32 : decode cX10_set 32 = .ok (.aload_n 0, 1) := by decide +kernel
theorem dX10_set_33 : decode cX10_set 33 = .ok (.bipush (-5), 2) := by decide +kernel
theorem dX10_set_35 : decode cX10_set 35 = .ok (.invokevirtual 60, 3) := by decide +kernel
theorem dX10_set_38 : decode cX10_set 38 = .ok (.ireturn, 1) := by decide +kernel
theorem dX10_set_39 : decode cX10_set 39 = .ok (.aload_n 0, 1) := by decide +kernel
theorem dX10_set_40 : decode cX10_set 40 = .ok (.getfield 11, 3) := by decide +kernel
theorem dX10_set_43 : decode cX10_set 43 = .ok (.iload_n 1, 1) := by decide +kernel
theorem dX10_set_44 : decode cX10_set 44 = .ok (.aaload, 1) := by decide +kernel
theorem dX10_set_45 : decode cX10_set 45 = .ok (.iload_n 2, 1) := by decide +kernel
theorem dX10_set_46 : decode cX10_set 46 = .ok (.lload_n 3, 1) := by decide +kernel
theorem dX10_set_47 : decode cX10_set 47 = .ok (.invokevirtual 74, 3) := by decide +kernel
theorem dX10_set_50 : decode cX10_set 50 = .ok (.iconst 1, 1) := by decide +kernel
theorem dX10_set_51 : decode cX10_set 51 = .ok (.ireturn, 1) := by decide +kernel
theorem dX10_copy_0 : decode cX10_copy 0 = .ok (.iload_n 1, 1) := by decide +kernel
theorem dX10_copy_1 : decode cX10_copy 1 = .ok (.invokestatic 56, 3) := by decide +kernel
theorem dX10_copy_4 : decode cX10_copy 4 = .ok (.ifCond .eq 10, 3) := by decide +kernel
theorem dX10_copy_7 : decode cX10_copy 7 = .ok (.iload_n 2, 1) := by decide +kernel
theorem dX10_copy_8 : decode cX10_copy 8 = .ok (.invokestatic 56, 3) := by decide +kernel
theorem dX10_copy_11 : decode cX10_copy 11 = .ok (.ifCond .ne 9, 3) := by decide +kernel
theorem dX10_copy_14 : decode cX10_copy 14 = .ok (.aload_n 0, 1) := by decide +kernel
theorem dX10_copy_15 : decode cX10_copy 15 = .ok (.iconst (-1), 1) := by decide +kernel
theorem dX10_copy_16 : decode cX10_copy 16 = .ok (.invokevirtual 60, 3) := by decide +kernel
theorem dX10_copy_19 : decode cX10_copy 19 = .ok (.ireturn, 1) := by decide +kernel
theorem dX10_copy_20 : decode cX10_copy 20 = .ok (.aload_n 0, 1) := by decide +kernel
theorem dX10_copy_21 : decode cX10_copy 21 = .ok (.getfield 11, 3) := by decide +kernel
theorem dX10_copy_24 : decode cX10_copy 24 = .ok (.iload_n 1, 1) := by decide +kernel
theorem dX10_copy_25 : decode cX10_copy 25 = .ok (.aaload, 1) := by decide +kernel
theorem dX10_copy_26 : decode cX10_copy 26 = .ok (.astore 6, 2) := by decide +kernel
theorem dX10_copy_28 : decode cX10_copy 28 = .ok (.aload_n 0, 1) := by decide +kernel
theorem dX10_copy_29 : decode cX10_copy 29 = .ok (.getfield 11, 3) := by decide +kernel
theorem dX10_copy_32 : decode cX10_copy 32 = .ok (.iload_n 2, 1) := by decide +kernel
theorem dX10_copy_33 : decode cX10_copy 33 = .ok (.aaload, 1) := by decide +kernel
theorem dX10_copy_34 : decode cX10_copy 34 = .ok (.astore 7, 2) := by decide +kernel
theorem dX10_copy_36 : decode cX10_copy 36 = .ok (.aload 6, 2) := by decide +kernel
theorem dX10_copy_38 : decode cX10_copy 38 = .ok (.invokevirtual 78, 3) := by decide +kernel
theorem dX10_copy_41 : decode cX10_copy 41 = .ok (.ifCond .ne 21, 3) := by decide +kernel
theorem dX10_copy_44 : decode cX10_copy 44 = .ok (.aload 7, 2) := by decide +kernel
theorem dX10_copy_46 : decode cX10_copy 46 = .ok (.invokevirtual 78, 3) := by decide +kernel
theorem dX10_copy_49 : decode cX10_copy 49 = .ok (.ifCond .ne 13, 3) := by decide +kernel
theorem dX10_copy_52 : decode cX10_copy 52 = .ok (.aload 6, 2) := by decide +kernel
theorem dX10_copy_54 : decode cX10_copy 54 = .ok (.aload 7, 2) := by decide +kernel
theorem dX10_copy_56 : decode cX10_copy 56 = .ok (.invokevirtual 82, 3) := by decide +kernel
theorem dX10_copy_59 : decode cX10_copy 59 = .ok (.ifCond .eq 10, 3) := by decide +kernel
theorem dX10_copy_62 : decode cX10_copy 62 = .ok (.aload_n 0, 1) := by decide +kernel
theorem dX10_copy_63 : decode cX10_copy 63 = .ok (.bipush (-2), 2) := by decide +kernel
theorem dX10_copy_65 : decode cX10_copy 65 = .ok (.invokevirtual 60, 3) := by decide +kernel
theorem dX10_copy_68 : decode cX10_copy 68 = .ok (.ireturn, 1) := by decide +kernel
theorem dX10_copy_69 : decode cX10_copy 69 = .ok (.aload 6, 2) := by decide +kernel
theorem dX10_copy_71 : decode cX10_copy 71 = .ok (.invokevirtual 86, 3) := by decide +kernel
theorem dX10_copy_74 : decode cX10_copy 74 = .ok (.ifCond .ne 11, 3) := by decide +kernel
theorem dX10_copy_77 : decode cX10_copy 77 = .ok (.aload 7, 2) := by decide +kernel
theorem dX10_copy_79 : decode cX10_copy 79 = .ok (.invokevirtual 86, 3) := by decide +kernel
theorem dX10_copy_82 : decode cX10_copy 82 = .ok (.ifCond .eq 10, 3) := by decide +kernel
theorem dX10_copy_85 : decode cX10_copy 85 = .ok (.aload_n 0, 1) := by decide +kernel
theorem dX10_copy_86 : decode cX10_copy 86 = .ok (.bipush (-3), 2) := by decide +kernel
theorem dX10_copy_88 : decode cX10_copy 88 = .ok (.invokevirtual 60, 3) := by decide +kernel
theorem dX10_copy_91 : decode cX10_copy 91 = .ok (.ireturn, 1) := by decide +kernel
theorem dX10_copy_92 : decode cX10_copy 92 = .ok (.iload 5, 2) := by decide +kernel
theorem dX10_copy_94 : decode cX10_copy 94 = .ok (.ifCond .ge 10, 3) := by decide +kernel
theorem dX10_copy_97 : decode cX10_copy 97 = .ok (.aload_n 0, 1) := by decide +kernel
theorem dX10_copy_98 : decode cX10_copy 98 = .ok (.bipush (-4), 2) := by decide +kernel
theorem dX10_copy_100 : decode cX10_copy 100 = .ok (.invokevirtual 60, 3) := by decide +kernel
theorem dX10_copy_103 : decode cX10_copy 103 = .ok (.ireturn, 1) := by decide +kernel
theorem dX10_copy_104 : decode cX10_copy 104 = .ok (.aload 6, 2) := by decide +kernel
theorem dX10_copy_106 : decode cX10_copy 106 = .ok (.iload_n 3, 1) := by decide +kernel
theorem dX10_copy_107 : decode cX10_copy 107 = .ok (.iload 5, 2) := by decide +kernel
theorem dX10_copy_109 : decode cX10_copy 109 = .ok (.invokevirtual 89, 3) := by decide +kernel
theorem dX10_copy_112 : decode cX10_copy 112 = .ok (.ifCond .eq 15, 3) := by decide +kernel
theorem dX10_copy_115 : decode cX10_copy 115 = .ok (.aload 7, 2) := by decide +kernel
theorem dX10_copy_117 : decode cX10_copy 117 = .ok (.iload 4, 2) := by decide +kernel
theorem dX10_copy_119 : decode cX10_copy 119 = .ok (.iload 5, 2) := by decide +kernel
theorem dX10_copy_121 : decode cX10_copy 121 = .ok (.invokevirtual 89, 3) := by decide +kernel
theorem dX10_copy_124 : decode cX10_copy 124 = .ok (.ifCond .ne 10, 3) := by decide +kernel
theorem dX10_copy_127 : decode cX10_copy 127 = .ok (.aload_n 0, 1) := by decide +kernel
theorem dX10_copy_128 : decode cX10_copy 128 = .ok (.bipush (-5), 2) := by decide +kernel
theorem dX10_copy_130 : decode cX10_copy 130 = .ok (.invokevirtual 60, 3) := by decide +kernel
theorem dX10_copy_133 : decode cX10_copy 133 = .ok (.ireturn, 1) := by decide +kernel
theorem dX10_copy_134 : decode cX10_copy 134 = .ok (.aload 6, 2) := by decide +kernel
theorem dX10_copy_136 : decode cX10_copy 136 = .ok (.iload_n 3, 1) := by decide +kernel
theorem dX10_copy_137 : decode cX10_copy 137 = .ok (.aload 7, 2) := by decide +kernel
theorem dX10_copy_139 : decode cX10_copy 139 = .ok (.iload 4, 2) := by decide +kernel
theorem dX10_copy_141 : decode cX10_copy 141 = .ok (.iload 5, 2) := by decide +kernel
theorem dX10_copy_143 : decode cX10_copy 143 = .ok (.invokevirtual 93, 3) := by decide +kernel
theorem dX10_copy_146 : decode cX10_copy 146 = .ok (.iconst 1, 1) := by decide +kernel
theorem dX10_copy_147 : decode cX10_copy 147 = .ok (.ireturn, 1) := by decide +kernel
theorem dX10_element_0 : decode cX10_element 0 = .ok (.iload_n 1, 1) := by decide +kernel
theorem dX10_element_1 : decode cX10_element 1 = .ok (.invokestatic 56, 3) := by decide +kernel
theorem dX10_element_4 : decode cX10_element 4 = .ok (.ifCond .eq 16, 3) := by decide +kernel
theorem dX10_element_7 : decode cX10_element 7 = .ok (.aload_n 0, 1) := by decide +kernel
theorem dX10_element_8 : decode cX10_element 8 = .ok (.getfield 11, 3) := by decide +kernel
theorem dX10_element_11 : decode cX10_element 11 = .ok (.iload_n 1, 1) := by decide +kernel
theorem dX10_element_12 : decode cX10_element 12 = .ok (.aaload, 1) := by decide +kernel
theorem dX10_element_13 : decode cX10_element 13 = .ok (.iload_n 2, 1) := by decide +kernel
theorem dX10_element_14 : decode cX10_element 14 = .ok (.invokevirtual 97, 3) := by decide +kernel
theorem dX10_element_17 : decode cX10_element 17 = .ok (.goto 4, 3) := by decide +kernel
theorem dX10_element_20 : decode cX10_element 20 = .ok (.lconst 0, 1) := by decide +kernel
theorem dX10_element_21 : decode cX10_element 21 = .ok (.lreturn, 1) := by decide +kernel
theorem dX10_show_0 : decode cX10_show 0 = .ok (.iload_n 1, 1) := by decide +kernel
theorem dX10_show_1 : decode cX10_show 1 = .ok (.invokestatic 56, 3) := by decide +kernel
theorem dX10_show_4 : decode cX10_show 4 = .ok (.ifCond .eq 19, 3) := by decide +kernel
theorem dX10_show_7 : decode cX10_show 7 = .ok (.iload_n 2, 1) := by decide +kernel
theorem dX10_show_8 : decode cX10_show 8 = .ok (.iconst (-1), 1) := by decide +kernel
theorem dX10_show_9 : decode cX10_show 9 = .ok (.if_icmp .eq 20, 3) := by decide +kernel
theorem dX10_show_12 : decode cX10_show 12 = .ok (.aload_n 0, 1) := by decide +kernel
theorem dX10_show_13 : decode cX10_show 13 = .ok (.getfield 26, 3) := by decide +kernel
theorem dX10_show_16 : decode cX10_show 16 = .ok (.iload_n 2, 1) := by decide +kernel
theorem dX10_show_17 : decode cX10_show 17 = .ok (.invokevirtual 101, 3) := by decide +kernel
theorem dX10_show_20 : decode cX10_show 20 = .ok (.ifCond .ne 9, 3) := by decide +kernel
theorem dX10_show_23 : decode cX10_show 23 = .ok (.aload_n 0, 1) := by decide +kernel
theorem dX10_show_24 : decode cX10_show 24 = .ok (.iconst (-1), 1) := by decide +kernel
theorem dX10_show_25 : decode cX10_show 25 = .ok (.invokevirtual 60, 3) := by decide +kernel
theorem dX10_show_28 : decode cX10_show 28 = .ok (.ireturn, 1) := by decide +kernel
theorem dX10_show_29 : decode cX10_show 29 = .ok (.iload_n 2, 1) := by decide +kernel
theorem dX10_show_30 : decode cX10_show 30 = .ok (.iconst (-1), 1) := by decide +kernel
theorem dX10_show_31 : decode cX10_show 31 = .ok (.if_icmp .ne 14, 3) := by decide +kernel
theorem dX10_show_34 : decode cX10_show 34 = .ok (.aload_n 0, 1) := by decide +kernel
theorem dX10_show_35 : decode cX10_show 35 = .ok (.getfield 11, 3) := by decide +kernel
theorem dX10_show_38 : decode cX10_show 38 = .ok (.iload_n 1, 1) := by decide +kernel
theorem dX10_show_39 : decode cX10_show 39 = .ok (.aaload, 1) := by decide +kernel
theorem dX10_show_40 : decode cX10_show 40 = .ok (.invokevirtual 104, 3) := by decide +kernel
theorem dX10_show_43 : decode cX10_show 43 = .ok (.iconst 0, 1) := by decide +kernel
theorem dX10_show_44 : decode cX10_show 44 = .ok (.ireturn, 1) := by decide +kernel
theorem dX10_show_45 : decode cX10_show 45 = .ok (.aload_n 0, 1) := by decide +kernel
theorem dX10_show_46 : decode cX10_show 46 = .ok (.getfield 11, 3) := by decide +kernel
theorem dX10_show_49 : decode cX10_show 49 = .ok (.iload_n 1, 1) := by decide +kernel
theorem dX10_show_50 : decode cX10_show 50 = .ok (.aaload, 1) := by decide +kernel
theorem dX10_show_51 : decode cX10_show 51 = .ok (.iload_n 2, 1) := by decide +kernel
theorem dX10_show_52 : decode cX10_show 52 = .ok (.invokevirtual 107, 3) := by decide +kernel
theorem dX10_show_55 : decode cX10_show 55 = .ok (.iconst 1, 1) := by decide +kernel
theorem dX10_show_56 : decode cX10_show 56 = .ok (.ireturn, 1) := by decide +kernel
theorem dX10_holds_0 : decode cX10_holds 0 = .ok (.iload_n 1, 1) := by decide +kernel
theorem dX10_holds_1 : decode cX10_holds 1 = .ok (.invokestatic 56, 3) := by decide +kernel
theorem dX10_holds_4 : decode cX10_holds 4 = .ok (.ifCond .eq 15, 3) := by decide +kernel
theorem dX10_holds_7 : decode cX10_holds 7 = .ok (.aload_n 0, 1) := by decide +kernel
theorem dX10_holds_8 : decode cX10_holds 8 = .ok (.getfield 11, 3) := by decide +kernel
theorem dX10_holds_11 : decode cX10_holds 11 = .ok (.iload_n 1, 1) := by decide +kernel
theorem dX10_holds_12 : decode cX10_holds 12 = .ok (.aaload, 1) := by decide +kernel
theorem dX10_holds_13 : decode cX10_holds 13 = .ok (.invokevirtual 111, 3) := by decide +kernel
theorem dX10_holds_16 : decode cX10_holds 16 = .ok (.goto 4, 3) := by decide +kernel
theorem dX10_holds_19 : decode cX10_holds 19 = .ok (.iconst (-1), 1) := by decide +kernel
theorem dX10_holds_20 : decode cX10_holds 20 = .ok (.ireturn, 1) := by decide +kernel
theorem dX10_says_0 : decode cX10_says 0 = .ok (.iload_n 1, 1) := by decide +kernel
theorem dX10_says_1 : decode cX10_says 1 = .ok (.invokestatic 56, 3) := by decide +kernel
theorem dX10_says_4 : decode cX10_says 4 = .ok (.ifCond .eq 13, 3) := by decide +kernel
theorem dX10_says_7 : decode cX10_says 7 = .ok (.iload_n 2, 1) := by decide +kernel
theorem dX10_says_8 : decode cX10_says 8 = .ok (.ifCond .lt 9, 3) := by decide +kernel
theorem dX10_says_11 : decode cX10_says 11 = .ok (.iload_n 2, 1) := by decide +kernel
theorem dX10_says_12 : decode cX10_says 12 = .ok (.bipush 7, 2) := by decide +kernel
theorem dX10_says_14 : decode cX10_says 14 = .ok (.if_icmp .le 9, 3) := by decide +kernel
theorem dX10_says_17 : decode cX10_says 17 = .ok (.aload_n 0, 1) := by decide +kernel
theorem dX10_says_18 : decode cX10_says 18 = .ok (.iconst (-1), 1) := by decide +kernel
theorem dX10_says_19 : decode cX10_says 19 = .ok (.invokevirtual 60, 3) := by decide +kernel
theorem dX10_says_22 : decode cX10_says 22 = .ok (.ireturn, 1) := by decide +kernel
theorem dX10_says_23 : decode cX10_says 23 = .ok (.aload_n 0, 1) := by decide +kernel
theorem dX10_says_24 : decode cX10_says 24 = .ok (.getfield 11, 3) := by decide +kernel
theorem dX10_says_27 : decode cX10_says 27 = .ok (.iload_n 1, 1) := by decide +kernel
theorem dX10_says_28 : decode cX10_says 28 = .ok (.aaload, 1) := by decide +kernel
theorem dX10_says_29 : decode cX10_says 29 = .ok (.astore_n 3, 1) := by decide +kernel
theorem dX10_says_30 : decode cX10_says 30 = .ok (.aload_n 3, 1) := by decide +kernel
theorem dX10_says_31 : decode cX10_says 31 = .ok (.invokevirtual 115, 3) := by decide +kernel
theorem dX10_says_34 : decode cX10_says 34 = .ok (.ifCond .eq 10, 3) := by decide +kernel
theorem dX10_says_37 : decode cX10_says 37 = .ok (.aload_n 0, 1) := by decide +kernel
theorem dX10_says_38 : decode cX10_says 38 = .ok (.bipush (-2), 2) := by decide +kernel
theorem dX10_says_40 : decode cX10_says 40 = .ok (.invokevirtual 60, 3) := by decide +kernel
theorem dX10_says_43 : decode cX10_says 43 = .ok (.ireturn, 1) := by decide +kernel
theorem dX10_says_44 : decode cX10_says 44 = .ok (.aload_n 3, 1) := by decide +kernel
theorem dX10_says_45 : decode cX10_says 45 = .ok (.invokevirtual 111, 3) := by decide +kernel
theorem dX10_says_48 : decode cX10_says 48 = .ok (.istore 4, 2) := by decide +kernel
theorem dX10_says_50 : decode cX10_says 50 = .ok (.aload_n 0, 1) := by decide +kernel
theorem dX10_says_51 : decode cX10_says 51 = .ok (.getfield 26, 3) := by decide +kernel
theorem dX10_says_54 : decode cX10_says 54 = .ok (.iload 4, 2) := by decide +kernel
theorem dX10_says_56 : decode cX10_says 56 = .ok (.invokevirtual 101, 3) := by decide +kernel
theorem dX10_says_59 : decode cX10_says 59 = .ok (.ifCond .ne 10, 3) := by decide +kernel
theorem dX10_says_62 : decode cX10_says 62 = .ok (.aload_n 0, 1) := by decide +kernel
theorem dX10_says_63 : decode cX10_says 63 = .ok (.bipush (-3), 2) := by decide +kernel
theorem dX10_says_65 : decode cX10_says 65 = .ok (.invokevirtual 60, 3) := by decide +kernel
theorem dX10_says_68 : decode cX10_says 68 = .ok (.ireturn, 1) := by decide +kernel
theorem dX10_says_69 : decode cX10_says 69 = .ok (.aload_n 0, 1) := by decide +kernel
theorem dX10_says_70 : decode cX10_says 70 = .ok (.getfield 26, 3) := by decide +kernel
theorem dX10_says_73 : decode cX10_says 73 = .ok (.getfield 118, 3) := by decide +kernel
theorem dX10_says_76 : decode cX10_says 76 = .ok (.iload 4, 2) := by decide +kernel
theorem dX10_says_78 : decode cX10_says 78 = .ok (.aaload, 1) := by decide +kernel
theorem dX10_says_79 : decode cX10_says 79 = .ok (.iload_n 2, 1) := by decide +kernel
theorem dX10_says_80 : decode cX10_says 80 = .ok (.invokevirtual 122, 3) := by decide +kernel
theorem dX10_says_83 : decode cX10_says 83 = .ok (.ifCond .ne 10, 3) := by decide +kernel
theorem dX10_says_86 : decode cX10_says 86 = .ok (.aload_n 0, 1) := by decide +kernel
theorem dX10_says_87 : decode cX10_says 87 = .ok (.bipush (-2), 2) := by decide +kernel
theorem dX10_says_89 : decode cX10_says 89 = .ok (.invokevirtual 60, 3) := by decide +kernel
theorem dX10_says_92 : decode cX10_says 92 = .ok (.ireturn, 1) := by decide +kernel
theorem dX10_says_93 : decode cX10_says 93 = .ok (.aload_n 0, 1) := by decide +kernel
theorem dX10_says_94 : decode cX10_says 94 = .ok (.getfield 26, 3) := by decide +kernel
theorem dX10_says_97 : decode cX10_says 97 = .ok (.iload 4, 2) := by decide +kernel
theorem dX10_says_99 : decode cX10_says 99 = .ok (.iload_n 2, 1) := by decide +kernel
theorem dX10_says_100 : decode cX10_says 100 = .ok (.invokevirtual 127, 3) := by decide +kernel
theorem dX10_says_103 : decode cX10_says 103 = .ok (.ireturn, 1) := by decide +kernel
theorem dX10_person_0 : decode cX10_person 0 = .ok (.iload_n 1, 1) := by decide +kernel
theorem dX10_person_1 : decode cX10_person 1 = .ok (.invokestatic 131, 3) := by decide +kernel
theorem dX10_person_4 : decode cX10_person 4 = .ok (.ifCond .ne 9, 3) := by decide +kernel
theorem dX10_person_7 : decode cX10_person 7 = .ok (.aload_n 0, 1) := by decide +kernel
theorem dX10_person_8 : decode cX10_person 8 = .ok (.iconst (-1), 1) := by decide +kernel
theorem dX10_person_9 : decode cX10_person 9 = .ok (.invokevirtual 60, 3) := by decide +kernel
theorem dX10_person_12 : decode cX10_person 12 = .ok (.ireturn, 1) := by decide +kernel
theorem dX10_person_13 : decode cX10_person 13 = .ok (.iload_n 2, 1) := by decide +kernel
theorem dX10_person_14 : decode cX10_person 14 = .ok (.invokestatic 134, 3) := by decide +kernel
theorem dX10_person_17 : decode cX10_person 17 = .ok (.ifCond .eq 24, 3) := by decide +kernel
theorem dX10_person_20 : decode cX10_person 20 = .ok (.iload_n 3, 1) := by decide +kernel
theorem dX10_person_21 : decode cX10_person 21 = .ok (.iconst 0, 1) := by decide +kernel
theorem dX10_person_22 : decode cX10_person 22 = .ok (.bipush 99, 2) := by decide +kernel
theorem dX10_person_24 : decode cX10_person 24 = .ok (.invokestatic 137, 3) := by decide +kernel
theorem dX10_person_27 : decode cX10_person 27 = .ok (.ifCond .eq 14, 3) := by decide +kernel
theorem dX10_person_30 : decode cX10_person 30 = .ok (.iload 4, 2) := by decide +kernel
theorem dX10_person_32 : decode cX10_person 32 = .ok (.iconst 0, 1) := by decide +kernel
theorem dX10_person_33 : decode cX10_person 33 = .ok (.bipush 9, 2) := by decide +kernel
theorem dX10_person_35 : decode cX10_person 35 = .ok (.invokestatic 137, 3) := by decide +kernel
theorem dX10_person_38 : decode cX10_person 38 = .ok (.ifCond .ne 10, 3) := by decide +kernel
theorem dX10_person_41 : decode cX10_person 41 = .ok (.aload_n 0, 1) := by decide +kernel
theorem dX10_person_42 : decode cX10_person 42 = .ok (.bipush (-6), 2) := by decide +kernel
theorem dX10_person_44 : decode cX10_person 44 = .ok (.invokevirtual 60, 3) := by decide +kernel
theorem dX10_person_47 : decode cX10_person 47 = .ok (.ireturn, 1) := by decide +kernel
theorem dX10_person_48 : decode cX10_person 48 = .ok (.aload_n 0, 1) := by decide +kernel
theorem dX10_person_49 : decode cX10_person 49 = .ok (.getfield 26, 3) := by decide +kernel
theorem dX10_person_52 : decode cX10_person 52 = .ok (.getfield 141, 3) := by decide +kernel
theorem dX10_person_55 : decode cX10_person 55 = .ok (.bipush 12, 2) := by decide +kernel
theorem dX10_person_57 : decode cX10_person 57 = .ok (.if_icmp .lt 10, 3) := by decide +kernel
theorem dX10_person_60 : decode cX10_person 60 = .ok (.aload_n 0, 1) := by decide +kernel
theorem dX10_person_61 : decode cX10_person 61 = .ok (.bipush (-7), 2) := by decide +kernel
theorem dX10_person_63 : decode cX10_person 63 = .ok (.invokevirtual 60, 3) := by decide +kernel
theorem dX10_person_66 : decode cX10_person 66 = .ok (.ireturn, 1) := by decide +kernel
theorem dX10_person_67 : decode cX10_person 67 = .ok (.aload_n 0, 1) := by decide +kernel
theorem dX10_person_68 : decode cX10_person 68 = .ok (.getfield 26, 3) := by decide +kernel
theorem dX10_person_71 : decode cX10_person 71 = .ok (.iload_n 1, 1) := by decide +kernel
theorem dX10_person_72 : decode cX10_person 72 = .ok (.iload_n 2, 1) := by decide +kernel
theorem dX10_person_73 : decode cX10_person 73 = .ok (.iload_n 3, 1) := by decide +kernel
theorem dX10_person_74 : decode cX10_person 74 = .ok (.iload 4, 2) := by decide +kernel
theorem dX10_person_76 : decode cX10_person 76 = .ok (.iload 5, 2) := by decide +kernel
theorem dX10_person_78 : decode cX10_person 78 = .ok (.invokevirtual 145, 3) := by decide +kernel
theorem dX10_person_81 : decode cX10_person 81 = .ok (.ireturn, 1) := by decide +kernel
theorem dX10_go_0 : decode cX10_go 0 = .ok (.aload_n 0, 1) := by decide +kernel
theorem dX10_go_1 : decode cX10_go 1 = .ok (.getfield 26, 3) := by decide +kernel
theorem dX10_go_4 : decode cX10_go 4 = .ok (.iload_n 1, 1) := by decide +kernel
theorem dX10_go_5 : decode cX10_go 5 = .ok (.invokevirtual 149, 3) := by decide +kernel
theorem dX10_go_8 : decode cX10_go 8 = .ok (.ifCond .eq 10, 3) := by decide +kernel
theorem dX10_go_11 : decode cX10_go 11 = .ok (.iload_n 2, 1) := by decide +kernel
theorem dX10_go_12 : decode cX10_go 12 = .ok (.invokestatic 131, 3) := by decide +kernel
theorem dX10_go_15 : decode cX10_go 15 = .ok (.ifCond .ne 9, 3) := by decide +kernel
theorem dX10_go_18 : decode cX10_go 18 = .ok (.aload_n 0, 1) := by decide +kernel
theorem dX10_go_19 : decode cX10_go 19 = .ok (.iconst (-1), 1) := by decide +kernel
theorem dX10_go_20 : decode cX10_go 20 = .ok (.invokevirtual 60, 3) := by decide +kernel
theorem dX10_go_23 : decode cX10_go 23 = .ok (.ireturn, 1) := by decide +kernel
theorem dX10_go_24 : decode cX10_go 24 = .ok (.aload_n 0, 1) := by decide +kernel
theorem dX10_go_25 : decode cX10_go 25 = .ok (.getfield 26, 3) := by decide +kernel
theorem dX10_go_28 : decode cX10_go 28 = .ok (.getfield 152, 3) := by decide +kernel
theorem dX10_go_31 : decode cX10_go 31 = .ok (.iload_n 1, 1) := by decide +kernel
theorem dX10_go_32 : decode cX10_go 32 = .ok (.aaload, 1) := by decide +kernel
theorem dX10_go_33 : decode cX10_go 33 = .ok (.getfield 156, 3) := by decide +kernel
theorem dX10_go_36 : decode cX10_go 36 = .ok (.istore_n 3, 1) := by decide +kernel
theorem dX10_go_37 : decode cX10_go 37 = .ok (.aload_n 0, 1) := by decide +kernel
theorem dX10_go_38 : decode cX10_go 38 = .ok (.getfield 26, 3) := by decide +kernel
theorem dX10_go_41 : decode cX10_go 41 = .ok (.getfield 152, 3) := by decide +kernel
theorem dX10_go_44 : decode cX10_go 44 = .ok (.iload_n 1, 1) := by decide +kernel
theorem dX10_go_45 : decode cX10_go 45 = .ok (.aaload, 1) := by decide +kernel
theorem dX10_go_46 : decode cX10_go 46 = .ok (.iload_n 2, 1) := by decide +kernel
theorem dX10_go_47 : decode cX10_go 47 = .ok (.putfield 156, 3) := by decide +kernel
theorem dX10_go_50 : decode cX10_go 50 = .ok (.iload_n 3, 1) := by decide +kernel
theorem dX10_go_51 : decode cX10_go 51 = .ok (.ireturn, 1) := by decide +kernel
theorem dX10_source_0 : decode cX10_source 0 = .ok (.iload_n 1, 1) := by decide +kernel
theorem dX10_source_1 : decode cX10_source 1 = .ok (.iconst 1, 1) := by decide +kernel
theorem dX10_source_2 : decode cX10_source 2 = .ok (.bipush 7, 2) := by decide +kernel
theorem dX10_source_4 : decode cX10_source 4 = .ok (.invokestatic 137, 3) := by decide +kernel
theorem dX10_source_7 : decode cX10_source 7 = .ok (.ifCond .ne 9, 3) := by decide +kernel
theorem dX10_source_10 : decode cX10_source 10 = .ok (.aload_n 0, 1) := by decide +kernel
theorem dX10_source_11 : decode cX10_source 11 = .ok (.iconst (-1), 1) := by decide +kernel
theorem dX10_source_12 : decode cX10_source 12 = .ok (.invokevirtual 60, 3) := by decide +kernel
theorem dX10_source_15 : decode cX10_source 15 = .ok (.ireturn, 1) := by decide +kernel
theorem dX10_source_16 : decode cX10_source 16 = .ok (.iload_n 1, 1) := by decide +kernel
theorem dX10_source_17 : decode cX10_source 17 = .ok (.iconst 4, 1) := by decide +kernel
theorem dX10_source_18 : decode cX10_source 18 = .ok (.if_icmp .ne 17, 3) := by decide +kernel
theorem dX10_source_21 : decode cX10_source 21 = .ok (.aload_n 0, 1) := by decide +kernel
theorem dX10_source_22 : decode cX10_source 22 = .ok (.getfield 26, 3) := by decide +kernel
theorem dX10_source_25 : decode cX10_source 25 = .ok (.iload_n 2, 1) := by decide +kernel
theorem dX10_source_26 : decode cX10_source 26 = .ok (.invokevirtual 149, 3) := by decide +kernel
theorem dX10_source_29 : decode cX10_source 29 = .ok (.ifCond .ne 19, 3) := by decide +kernel
theorem dX10_source_32 : decode cX10_source 32 = .ok (.goto 10, 3) := by decide +kernel
theorem dX10_source_35 : decode cX10_source 35 = .ok (.iload_n 2, 1) := by decide +kernel
theorem dX10_source_36 : decode cX10_source 36 = .ok (.invokestatic 131, 3) := by decide +kernel
theorem dX10_source_39 : decode cX10_source 39 = .ok (.ifCond .ne 9, 3) := by decide +kernel
theorem dX10_source_42 : decode cX10_source 42 = .ok (.aload_n 0, 1) := by decide +kernel
theorem dX10_source_43 : decode cX10_source 43 = .ok (.iconst (-1), 1) := by decide +kernel
theorem dX10_source_44 : decode cX10_source 44 = .ok (.invokevirtual 60, 3) := by decide +kernel
theorem dX10_source_47 : decode cX10_source 47 = .ok (.ireturn, 1) := by decide +kernel
theorem dX10_source_48 : decode cX10_source 48 = .ok (.iload_n 3, 1) := by decide +kernel
theorem dX10_source_49 : decode cX10_source 49 = .ok (.invokestatic 134, 3) := by decide +kernel
theorem dX10_source_52 : decode cX10_source 52 = .ok (.ifCond .eq 14, 3) := by decide +kernel
theorem dX10_source_55 : decode cX10_source 55 = .ok (.iload 4, 2) := by decide +kernel
theorem dX10_source_57 : decode cX10_source 57 = .ok (.iconst 1, 1) := by decide +kernel
theorem dX10_source_58 : decode cX10_source 58 = .ok (.bipush 99, 2) := by decide +kernel
theorem dX10_source_60 : decode cX10_source 60 = .ok (.invokestatic 137, 3) := by decide +kernel
theorem dX10_source_63 : decode cX10_source 63 = .ok (.ifCond .ne 10, 3) := by decide +kernel
theorem dX10_source_66 : decode cX10_source 66 = .ok (.aload_n 0, 1) := by decide +kernel
theorem dX10_source_67 : decode cX10_source 67 = .ok (.bipush (-6), 2) := by decide +kernel
theorem dX10_source_69 : decode cX10_source 69 = .ok (.invokevirtual 60, 3) := by decide +kernel
theorem dX10_source_72 : decode cX10_source 72 = .ok (.ireturn, 1) := by decide +kernel
theorem dX10_source_73 : decode cX10_source 73 = .ok (.aload_n 0, 1) := by decide +kernel
theorem dX10_source_74 : decode cX10_source 74 = .ok (.getfield 26, 3) := by decide +kernel
theorem dX10_source_77 : decode cX10_source 77 = .ok (.getfield 161, 3) := by decide +kernel
theorem dX10_source_80 : decode cX10_source 80 = .ok (.bipush 14, 2) := by decide +kernel
theorem dX10_source_82 : decode cX10_source 82 = .ok (.if_icmp .lt 10, 3) := by decide +kernel
theorem dX10_source_85 : decode cX10_source 85 = .ok (.aload_n 0, 1) := by decide +kernel
theorem dX10_source_86 : decode cX10_source 86 = .ok (.bipush (-7), 2) := by decide +kernel
theorem dX10_source_88 : decode cX10_source 88 = .ok (.invokevirtual 60, 3) := by decide +kernel
theorem dX10_source_91 : decode cX10_source 91 = .ok (.ireturn, 1) := by decide +kernel
theorem dX10_source_92 : decode cX10_source 92 = .ok (.aload_n 0, 1) := by decide +kernel
theorem dX10_source_93 : decode cX10_source 93 = .ok (.getfield 26, 3) := by decide +kernel
theorem dX10_source_96 : decode cX10_source 96 = .ok (.iload_n 1, 1) := by decide +kernel
theorem dX10_source_97 : decode cX10_source 97 = .ok (.iload_n 2, 1) := by decide +kernel
theorem dX10_source_98 : decode cX10_source 98 = .ok (.iload_n 3, 1) := by decide +kernel
theorem dX10_source_99 : decode cX10_source 99 = .ok (.iload 4, 2) := by decide +kernel
theorem dX10_source_101 : decode cX10_source 101 = .ok (.invokevirtual 164, 3) := by decide +kernel
theorem dX10_source_104 : decode cX10_source 104 = .ok (.ireturn, 1) := by decide +kernel
theorem dX10_hours_0 : decode cX10_hours 0 = .ok (.aload_n 0, 1) := by decide +kernel
theorem dX10_hours_1 : decode cX10_hours 1 = .ok (.getfield 26, 3) := by decide +kernel
theorem dX10_hours_4 : decode cX10_hours 4 = .ok (.iload_n 1, 1) := by decide +kernel
theorem dX10_hours_5 : decode cX10_hours 5 = .ok (.invokevirtual 101, 3) := by decide +kernel
theorem dX10_hours_8 : decode cX10_hours 8 = .ok (.ifCond .ne 9, 3) := by decide +kernel
theorem dX10_hours_11 : decode cX10_hours 11 = .ok (.aload_n 0, 1) := by decide +kernel
theorem dX10_hours_12 : decode cX10_hours 12 = .ok (.iconst (-1), 1) := by decide +kernel
theorem dX10_hours_13 : decode cX10_hours 13 = .ok (.invokevirtual 60, 3) := by decide +kernel
theorem dX10_hours_16 : decode cX10_hours 16 = .ok (.ireturn, 1) := by decide +kernel
theorem dX10_hours_17 : decode cX10_hours 17 = .ok (.iload_n 2, 1) := by decide +kernel
theorem dX10_hours_18 : decode cX10_hours 18 = .ok (.iconst 0, 1) := by decide +kernel
theorem dX10_hours_19 : decode cX10_hours 19 = .ok (.bipush 23, 2) := by decide +kernel
theorem dX10_hours_21 : decode cX10_hours 21 = .ok (.invokestatic 137, 3) := by decide +kernel
theorem dX10_hours_24 : decode cX10_hours 24 = .ok (.ifCond .eq 13, 3) := by decide +kernel
theorem dX10_hours_27 : decode cX10_hours 27 = .ok (.iload_n 3, 1) := by decide +kernel
theorem dX10_hours_28 : decode cX10_hours 28 = .ok (.iconst 0, 1) := by decide +kernel
theorem dX10_hours_29 : decode cX10_hours 29 = .ok (.bipush 23, 2) := by decide +kernel
theorem dX10_hours_31 : decode cX10_hours 31 = .ok (.invokestatic 137, 3) := by decide +kernel
theorem dX10_hours_34 : decode cX10_hours 34 = .ok (.ifCond .ne 10, 3) := by decide +kernel
theorem dX10_hours_37 : decode cX10_hours 37 = .ok (.aload_n 0, 1) := by decide +kernel
theorem dX10_hours_38 : decode cX10_hours 38 = .ok (.bipush (-6), 2) := by decide +kernel
theorem dX10_hours_40 : decode cX10_hours 40 = .ok (.invokevirtual 60, 3) := by decide +kernel
theorem dX10_hours_43 : decode cX10_hours 43 = .ok (.ireturn, 1) := by decide +kernel
theorem dX10_hours_44 : decode cX10_hours 44 = .ok (.aload_n 0, 1) := by decide +kernel
theorem dX10_hours_45 : decode cX10_hours 45 = .ok (.getfield 26, 3) := by decide +kernel
theorem dX10_hours_48 : decode cX10_hours 48 = .ok (.getfield 118, 3) := by decide +kernel
theorem dX10_hours_51 : decode cX10_hours 51 = .ok (.iload_n 1, 1) := by decide +kernel
theorem dX10_hours_52 : decode cX10_hours 52 = .ok (.aaload, 1) := by decide +kernel
theorem dX10_hours_53 : decode cX10_hours 53 = .ok (.astore 4, 2) := by decide +kernel
theorem dX10_hours_55 : decode cX10_hours 55 = .ok (.aload 4, 2) := by decide +kernel
theorem dX10_hours_57 : decode cX10_hours 57 = .ok (.invokevirtual 168, 3) := by decide +kernel
theorem dX10_hours_60 : decode cX10_hours 60 = .ok (.istore 5, 2) := by decide +kernel
theorem dX10_hours_62 : decode cX10_hours 62 = .ok (.aload 4, 2) := by decide +kernel
theorem dX10_hours_64 : decode cX10_hours 64 = .ok (.iload_n 2, 1) := by decide +kernel
theorem dX10_hours_65 : decode cX10_hours 65 = .ok (.putfield 171, 3) := by decide +kernel
theorem dX10_hours_68 : decode cX10_hours 68 = .ok (.aload 4, 2) := by decide +kernel
theorem dX10_hours_70 : decode cX10_hours 70 = .ok (.iload_n 3, 1) := by decide +kernel
theorem dX10_hours_71 : decode cX10_hours 71 = .ok (.putfield 174, 3) := by decide +kernel
theorem dX10_hours_74 : decode cX10_hours 74 = .ok (.iload 5, 2) := by decide +kernel
theorem dX10_hours_76 : decode cX10_hours 76 = .ok (.ireturn, 1) := by decide +kernel
theorem dX10_cost_0 : decode cX10_cost 0 = .ok (.aload_n 0, 1) := by decide +kernel
theorem dX10_cost_1 : decode cX10_cost 1 = .ok (.getfield 26, 3) := by decide +kernel
theorem dX10_cost_4 : decode cX10_cost 4 = .ok (.iload_n 1, 1) := by decide +kernel
theorem dX10_cost_5 : decode cX10_cost 5 = .ok (.invokevirtual 101, 3) := by decide +kernel
theorem dX10_cost_8 : decode cX10_cost 8 = .ok (.ifCond .ne 9, 3) := by decide +kernel
theorem dX10_cost_11 : decode cX10_cost 11 = .ok (.aload_n 0, 1) := by decide +kernel
theorem dX10_cost_12 : decode cX10_cost 12 = .ok (.iconst (-1), 1) := by decide +kernel
theorem dX10_cost_13 : decode cX10_cost 13 = .ok (.invokevirtual 60, 3) := by decide +kernel
theorem dX10_cost_16 : decode cX10_cost 16 = .ok (.ireturn, 1) := by decide +kernel
theorem dX10_cost_17 : decode cX10_cost 17 = .ok (.iload_n 2, 1) := by decide +kernel
theorem dX10_cost_18 : decode cX10_cost 18 = .ok (.iconst 0, 1) := by decide +kernel
theorem dX10_cost_19 : decode cX10_cost 19 = .ok (.bipush 99, 2) := by decide +kernel
theorem dX10_cost_21 : decode cX10_cost 21 = .ok (.invokestatic 137, 3) := by decide +kernel
theorem dX10_cost_24 : decode cX10_cost 24 = .ok (.ifCond .ne 10, 3) := by decide +kernel
theorem dX10_cost_27 : decode cX10_cost 27 = .ok (.aload_n 0, 1) := by decide +kernel
theorem dX10_cost_28 : decode cX10_cost 28 = .ok (.bipush (-6), 2) := by decide +kernel
theorem dX10_cost_30 : decode cX10_cost 30 = .ok (.invokevirtual 60, 3) := by decide +kernel
theorem dX10_cost_33 : decode cX10_cost 33 = .ok (.ireturn, 1) := by decide +kernel
theorem dX10_cost_34 : decode cX10_cost 34 = .ok (.aload_n 0, 1) := by decide +kernel
theorem dX10_cost_35 : decode cX10_cost 35 = .ok (.getfield 26, 3) := by decide +kernel
theorem dX10_cost_38 : decode cX10_cost 38 = .ok (.getfield 118, 3) := by decide +kernel
theorem dX10_cost_41 : decode cX10_cost 41 = .ok (.iload_n 1, 1) := by decide +kernel
theorem dX10_cost_42 : decode cX10_cost 42 = .ok (.aaload, 1) := by decide +kernel
theorem dX10_cost_43 : decode cX10_cost 43 = .ok (.getfield 177, 3) := by decide +kernel
theorem dX10_cost_46 : decode cX10_cost 46 = .ok (.istore_n 3, 1) := by decide +kernel
theorem dX10_cost_47 : decode cX10_cost 47 = .ok (.aload_n 0, 1) := by decide +kernel
theorem dX10_cost_48 : decode cX10_cost 48 = .ok (.getfield 26, 3) := by decide +kernel
theorem dX10_cost_51 : decode cX10_cost 51 = .ok (.getfield 118, 3) := by decide +kernel
theorem dX10_cost_54 : decode cX10_cost 54 = .ok (.iload_n 1, 1) := by decide +kernel
theorem dX10_cost_55 : decode cX10_cost 55 = .ok (.aaload, 1) := by decide +kernel
theorem dX10_cost_56 : decode cX10_cost 56 = .ok (.iload_n 2, 1) := by decide +kernel
theorem dX10_cost_57 : decode cX10_cost 57 = .ok (.putfield 177, 3) := by decide +kernel
theorem dX10_cost_60 : decode cX10_cost 60 = .ok (.iload_n 3, 1) := by decide +kernel
theorem dX10_cost_61 : decode cX10_cost 61 = .ok (.ireturn, 1) := by decide +kernel
theorem dX10_off_0 : decode cX10_off 0 = .ok (.aload_n 0, 1) := by decide +kernel
theorem dX10_off_1 : decode cX10_off 1 = .ok (.getfield 26, 3) := by decide +kernel
theorem dX10_off_4 : decode cX10_off 4 = .ok (.iload_n 1, 1) := by decide +kernel
theorem dX10_off_5 : decode cX10_off 5 = .ok (.invokevirtual 101, 3) := by decide +kernel
theorem dX10_off_8 : decode cX10_off 8 = .ok (.ifCond .ne 9, 3) := by decide +kernel
theorem dX10_off_11 : decode cX10_off 11 = .ok (.aload_n 0, 1) := by decide +kernel
theorem dX10_off_12 : decode cX10_off 12 = .ok (.iconst (-1), 1) := by decide +kernel
theorem dX10_off_13 : decode cX10_off 13 = .ok (.invokevirtual 60, 3) := by decide +kernel
theorem dX10_off_16 : decode cX10_off 16 = .ok (.ireturn, 1) := by decide +kernel
theorem dX10_off_17 : decode cX10_off 17 = .ok (.aload_n 0, 1) := by decide +kernel
theorem dX10_off_18 : decode cX10_off 18 = .ok (.getfield 26, 3) := by decide +kernel
theorem dX10_off_21 : decode cX10_off 21 = .ok (.getfield 180, 3) := by decide +kernel
theorem dX10_off_24 : decode cX10_off 24 = .ok (.istore_n 3, 1) := by decide +kernel
theorem dX10_off_25 : decode cX10_off 25 = .ok (.aload_n 0, 1) := by decide +kernel
theorem dX10_off_26 : decode cX10_off 26 = .ok (.getfield 26, 3) := by decide +kernel
theorem dX10_off_29 : decode cX10_off 29 = .ok (.iload_n 2, 1) := by decide +kernel
theorem dX10_off_30 : decode cX10_off 30 = .ok (.ifCond .eq 12, 3) := by decide +kernel
theorem dX10_off_33 : decode cX10_off 33 = .ok (.iload_n 3, 1) := by decide +kernel
theorem dX10_off_34 : decode cX10_off 34 = .ok (.iload_n 1, 1) := by decide +kernel
theorem dX10_off_35 : decode cX10_off 35 = .ok (.invokestatic 183, 3) := by decide +kernel
theorem dX10_off_38 : decode cX10_off 38 = .ok (.ior, 1) := by decide +kernel
theorem dX10_off_39 : decode cX10_off 39 = .ok (.goto 11, 3) := by decide +kernel
theorem dX10_off_42 : decode cX10_off 42 = .ok (.iload_n 3, 1) := by decide +kernel
theorem dX10_off_43 : decode cX10_off 43 = .ok (.iload_n 1, 1) := by decide +kernel
theorem dX10_off_44 : decode cX10_off 44 = .ok (.invokestatic 183, 3) := by decide +kernel
theorem dX10_off_47 : decode cX10_off 47 = .ok (.iconst (-1), 1) := by decide +kernel
theorem dX10_off_48 : decode cX10_off 48 = .ok (.ixor, 1) := by decide +kernel
theorem dX10_off_49 : decode cX10_off 49 = .ok (.iand, 1) := by decide +kernel
theorem dX10_off_50 : decode cX10_off 50 = .ok (.putfield 180, 3) := by decide +kernel
theorem dX10_off_53 : decode cX10_off 53 = .ok (.aload_n 0, 1) := by decide +kernel
theorem dX10_off_54 : decode cX10_off 54 = .ok (.getfield 26, 3) := by decide +kernel
theorem dX10_off_57 : decode cX10_off 57 = .ok (.getfield 180, 3) := by decide +kernel
theorem dX10_off_60 : decode cX10_off 60 = .ok (.iload_n 3, 1) := by decide +kernel
theorem dX10_off_61 : decode cX10_off 61 = .ok (.if_icmp .ne 7, 3) := by decide +kernel
theorem dX10_off_64 : decode cX10_off 64 = .ok (.iconst 0, 1) := by decide +kernel
theorem dX10_off_65 : decode cX10_off 65 = .ok (.goto 4, 3) := by decide +kernel
theorem dX10_off_68 : decode cX10_off 68 = .ok (.iconst 1, 1) := by decide +kernel
theorem dX10_off_69 : decode cX10_off 69 = .ok (.ireturn, 1) := by decide +kernel
theorem dX10_size_0 : decode cX10_size 0 = .ok (.iload_n 1, 1) := by decide +kernel
theorem dX10_size_1 : decode cX10_size 1 = .ok (.invokestatic 131, 3) := by decide +kernel
theorem dX10_size_4 : decode cX10_size 4 = .ok (.ifCond .ne 9, 3) := by decide +kernel
theorem dX10_size_7 : decode cX10_size 7 = .ok (.aload_n 0, 1) := by decide +kernel
theorem dX10_size_8 : decode cX10_size 8 = .ok (.iconst (-1), 1) := by decide +kernel
theorem dX10_size_9 : decode cX10_size 9 = .ok (.invokevirtual 60, 3) := by decide +kernel
theorem dX10_size_12 : decode cX10_size 12 = .ok (.ireturn, 1) := by decide +kernel
theorem dX10_size_13 : decode cX10_size 13 = .ok (.iload_n 2, 1) := by decide +kernel
theorem dX10_size_14 : decode cX10_size 14 = .ok (.iconst 0, 1) := by decide +kernel
theorem dX10_size_15 : decode cX10_size 15 = .ok (.bipush 9, 2) := by decide +kernel
theorem dX10_size_17 : decode cX10_size 17 = .ok (.invokestatic 137, 3) := by decide +kernel
theorem dX10_size_20 : decode cX10_size 20 = .ok (.ifCond .ne 10, 3) := by decide +kernel
theorem dX10_size_23 : decode cX10_size 23 = .ok (.aload_n 0, 1) := by decide +kernel
theorem dX10_size_24 : decode cX10_size 24 = .ok (.bipush (-6), 2) := by decide +kernel
theorem dX10_size_26 : decode cX10_size 26 = .ok (.invokevirtual 60, 3) := by decide +kernel
theorem dX10_size_29 : decode cX10_size 29 = .ok (.ireturn, 1) := by decide +kernel
theorem dX10_size_30 : decode cX10_size 30 = .ok (.aload_n 0, 1) := by decide +kernel
theorem dX10_size_31 : decode cX10_size 31 = .ok (.getfield 26, 3) := by decide +kernel
theorem dX10_size_34 : decode cX10_size 34 = .ok (.getfield 186, 3) := by decide +kernel
theorem dX10_size_37 : decode cX10_size 37 = .ok (.iload_n 1, 1) := by decide +kernel
theorem dX10_size_38 : decode cX10_size 38 = .ok (.iaload, 1) := by decide +kernel
theorem dX10_size_39 : decode cX10_size 39 = .ok (.istore_n 3, 1) := by decide +kernel
theorem dX10_size_40 : decode cX10_size 40 = .ok (.aload_n 0, 1) := by decide +kernel
theorem dX10_size_41 : decode cX10_size 41 = .ok (.getfield 26, 3) := by decide +kernel
theorem dX10_size_44 : decode cX10_size 44 = .ok (.getfield 186, 3) := by decide +kernel
theorem dX10_size_47 : decode cX10_size 47 = .ok (.iload_n 1, 1) := by decide +kernel
theorem dX10_size_48 : decode cX10_size 48 = .ok (.iload_n 2, 1) := by decide +kernel
theorem dX10_size_49 : decode cX10_size 49 = .ok (.iastore, 1) := by decide +kernel
theorem dX10_size_50 : decode cX10_size 50 = .ok (.iload_n 3, 1) := by decide +kernel
theorem dX10_size_51 : decode cX10_size 51 = .ok (.ireturn, 1) := by decide +kernel
theorem dX10_weather_0 : decode cX10_weather 0 = .ok (.iload_n 1, 1) := by decide +kernel
theorem dX10_weather_1 : decode cX10_weather 1 = .ok (.iconst 0, 1) := by decide +kernel
theorem dX10_weather_2 : decode cX10_weather 2 = .ok (.bipush 9, 2) := by decide +kernel
theorem dX10_weather_4 : decode cX10_weather 4 = .ok (.invokestatic 137, 3) := by decide +kernel
theorem dX10_weather_7 : decode cX10_weather 7 = .ok (.ifCond .eq 12, 3) := by decide +kernel
theorem dX10_weather_10 : decode cX10_weather 10 = .ok (.iload_n 2, 1) := by decide +kernel
theorem dX10_weather_11 : decode cX10_weather 11 = .ok (.iconst 0, 1) := by decide +kernel
theorem dX10_weather_12 : decode cX10_weather 12 = .ok (.iconst 1, 1) := by decide +kernel
theorem dX10_weather_13 : decode cX10_weather 13 = .ok (.invokestatic 137, 3) := by decide +kernel
theorem dX10_weather_16 : decode cX10_weather 16 = .ok (.ifCond .ne 10, 3) := by decide +kernel
theorem dX10_weather_19 : decode cX10_weather 19 = .ok (.aload_n 0, 1) := by decide +kernel
theorem dX10_weather_20 : decode cX10_weather 20 = .ok (.bipush (-6), 2) := by decide +kernel
theorem dX10_weather_22 : decode cX10_weather 22 = .ok (.invokevirtual 60, 3) := by decide +kernel
theorem dX10_weather_25 : decode cX10_weather 25 = .ok (.ireturn, 1) := by decide +kernel
theorem dX10_weather_26 : decode cX10_weather 26 = .ok (.aload_n 0, 1) := by decide +kernel
theorem dX10_weather_27 : decode cX10_weather 27 = .ok (.getfield 26, 3) := by decide +kernel
theorem dX10_weather_30 : decode cX10_weather 30 = .ok (.getfield 189, 3) := by decide +kernel
theorem dX10_weather_33 : decode cX10_weather 33 = .ok (.iload_n 1, 1) := by decide +kernel
theorem dX10_weather_34 : decode cX10_weather 34 = .ok (.iaload, 1) := by decide +kernel
theorem dX10_weather_35 : decode cX10_weather 35 = .ok (.istore_n 3, 1) := by decide +kernel
theorem dX10_weather_36 : decode cX10_weather 36 = .ok (.aload_n 0, 1) := by decide +kernel
theorem dX10_weather_37 : decode cX10_weather 37 = .ok (.getfield 26, 3) := by decide +kernel
theorem dX10_weather_40 : decode cX10_weather 40 = .ok (.getfield 189, 3) := by decide +kernel
theorem dX10_weather_43 : decode cX10_weather 43 = .ok (.iload_n 1, 1) := by decide +kernel
theorem dX10_weather_44 : decode cX10_weather 44 = .ok (.iload_n 2, 1) := by decide +kernel
theorem dX10_weather_45 : decode cX10_weather 45 = .ok (.iastore, 1) := by decide +kernel
theorem dX10_weather_46 : decode cX10_weather 46 = .ok (.iload_n 3, 1) := by decide +kernel
theorem dX10_weather_47 : decode cX10_weather 47 = .ok (.ireturn, 1) := by decide +kernel
theorem dX10_pass_0 : decode cX10_pass 0 = .ok (.iload_n 1, 1) := by decide +kernel
theorem dX10_pass_1 : decode cX10_pass 1 = .ok (.iconst 1, 1) := by decide +kernel
theorem dX10_pass_2 : decode cX10_pass 2 = .ok (.bipush 100, 2) := by decide +kernel
theorem dX10_pass_4 : decode cX10_pass 4 = .ok (.invokestatic 137, 3) := by decide +kernel
theorem dX10_pass_7 : decode cX10_pass 7 = .ok (.ifCond .eq 18, 3) := by decide +kernel
theorem dX10_pass_10 : decode cX10_pass 10 = .ok (.aload_n 0, 1) := by decide +kernel
theorem dX10_pass_11 : decode cX10_pass 11 = .ok (.getfield 26, 3) := by decide +kernel
theorem dX10_pass_14 : decode cX10_pass 14 = .ok (.getfield 192, 3) := by decide +kernel
theorem dX10_pass_17 : decode cX10_pass 17 = .ok (.iload_n 1, 1) := by decide +kernel
theorem dX10_pass_18 : decode cX10_pass 18 = .ok (.iadd, 1) := by decide +kernel
theorem dX10_pass_19 : decode cX10_pass 19 = .ok (.invokestatic 195, 3) := by decide +kernel
theorem dX10_pass_22 : decode cX10_pass 22 = .ok (.ifCond .ne 10, 3) := by decide +kernel
theorem dX10_pass_25 : decode cX10_pass 25 = .ok (.aload_n 0, 1) := by decide +kernel
theorem dX10_pass_26 : decode cX10_pass 26 = .ok (.bipush (-6), 2) := by decide +kernel
theorem dX10_pass_28 : decode cX10_pass 28 = .ok (.invokevirtual 60, 3) := by decide +kernel
theorem dX10_pass_31 : decode cX10_pass 31 = .ok (.ireturn, 1) := by decide +kernel
theorem dX10_pass_32 : decode cX10_pass 32 = .ok (.aload_n 0, 1) := by decide +kernel
theorem dX10_pass_33 : decode cX10_pass 33 = .ok (.getfield 26, 3) := by decide +kernel
theorem dX10_pass_36 : decode cX10_pass 36 = .ok (.dup, 1) := by decide +kernel
theorem dX10_pass_37 : decode cX10_pass 37 = .ok (.getfield 192, 3) := by decide +kernel
theorem dX10_pass_40 : decode cX10_pass 40 = .ok (.iload_n 1, 1) := by decide +kernel
theorem dX10_pass_41 : decode cX10_pass 41 = .ok (.iadd, 1) := by decide +kernel
theorem dX10_pass_42 : decode cX10_pass 42 = .ok (.putfield 192, 3) := by decide +kernel
theorem dX10_pass_45 : decode cX10_pass 45 = .ok (.aload_n 0, 1) := by decide +kernel
theorem dX10_pass_46 : decode cX10_pass 46 = .ok (.getfield 26, 3) := by decide +kernel
theorem dX10_pass_49 : decode cX10_pass 49 = .ok (.getfield 192, 3) := by decide +kernel
theorem dX10_pass_52 : decode cX10_pass 52 = .ok (.ireturn, 1) := by decide +kernel
theorem dX10_laws_0 : decode cX10_laws 0 = .ok (.aload_n 0, 1) := by decide +kernel
theorem dX10_laws_1 : decode cX10_laws 1 = .ok (.iload_n 1, 1) := by decide +kernel
theorem dX10_laws_2 : decode cX10_laws 2 = .ok (.invokevirtual 68, 3) := by decide +kernel
theorem dX10_laws_5 : decode cX10_laws 5 = .ok (.istore_n 2, 1) := by decide +kernel
theorem dX10_laws_6 : decode cX10_laws 6 = .ok (.iload_n 2, 1) := by decide +kernel
theorem dX10_laws_7 : decode cX10_laws 7 = .ok (.ifCond .eq 9, 3) := by decide +kernel
theorem dX10_laws_10 : decode cX10_laws 10 = .ok (.aload_n 0, 1) := by decide +kernel
theorem dX10_laws_11 : decode cX10_laws 11 = .ok (.iload_n 2, 1) := by decide +kernel
theorem dX10_laws_12 : decode cX10_laws 12 = .ok (.invokevirtual 60, 3) := by decide +kernel
theorem dX10_laws_15 : decode cX10_laws 15 = .ok (.ireturn, 1) := by decide +kernel
theorem dX10_laws_16 : decode cX10_laws 16 = .ok (.aload_n 0, 1) := by decide +kernel
theorem dX10_laws_17 : decode cX10_laws 17 = .ok (.getfield 36, 3) := by decide +kernel
theorem dX10_laws_20 : decode cX10_laws 20 = .ok (.aload_n 0, 1) := by decide +kernel
theorem dX10_laws_21 : decode cX10_laws 21 = .ok (.getfield 11, 3) := by decide +kernel
theorem dX10_laws_24 : decode cX10_laws 24 = .ok (.iload_n 1, 1) := by decide +kernel
theorem dX10_laws_25 : decode cX10_laws 25 = .ok (.aaload, 1) := by decide +kernel
theorem dX10_laws_26 : decode cX10_laws 26 = .ok (.aload_n 0, 1) := by decide +kernel
theorem dX10_laws_27 : decode cX10_laws 27 = .ok (.getfield 26, 3) := by decide +kernel
theorem dX10_laws_30 : decode cX10_laws 30 = .ok (.getfield 198, 3) := by decide +kernel
theorem dX10_laws_33 : decode cX10_laws 33 = .ok (.invokevirtual 201, 3) := by decide +kernel
theorem dX10_laws_36 : decode cX10_laws 36 = .ok (.ifCond .ne 10, 3) := by decide +kernel
theorem dX10_laws_39 : decode cX10_laws 39 = .ok (.aload_n 0, 1) := by decide +kernel
theorem dX10_laws_40 : decode cX10_laws 40 = .ok (.bipush (-6), 2) := by decide +kernel
theorem dX10_laws_42 : decode cX10_laws 42 = .ok (.invokevirtual 60, 3) := by decide +kernel
theorem dX10_laws_45 : decode cX10_laws 45 = .ok (.ireturn, 1) := by decide +kernel
theorem dX10_laws_46 : decode cX10_laws 46 = .ok (.aload_n 0, 1) := by decide +kernel
theorem dX10_laws_47 : decode cX10_laws 47 = .ok (.getfield 36, 3) := by decide +kernel
theorem dX10_laws_50 : decode cX10_laws 50 = .ok (.getfield 205, 3) := by decide +kernel
theorem dX10_laws_53 : decode cX10_laws 53 = .ok (.iconst 0, 1) := by decide +kernel
theorem dX10_laws_54 : decode cX10_laws 54 = .ok (.aload_n 0, 1) := by decide +kernel
theorem dX10_laws_55 : decode cX10_laws 55 = .ok (.getfield 26, 3) := by decide +kernel
theorem dX10_laws_58 : decode cX10_laws 58 = .ok (.getfield 198, 3) := by decide +kernel
theorem dX10_laws_61 : decode cX10_laws 61 = .ok (.iconst 0, 1) := by decide +kernel
theorem dX10_laws_62 : decode cX10_laws 62 = .ok (.bipush 6, 2) := by decide +kernel
theorem dX10_laws_64 : decode cX10_laws 64 = .ok (.invokestatic 208, 3) := by decide +kernel
theorem dX10_laws_67 : decode cX10_laws 67 = .ok (.aload_n 0, 1) := by decide +kernel
theorem dX10_laws_68 : decode cX10_laws 68 = .ok (.getfield 36, 3) := by decide +kernel
theorem dX10_laws_71 : decode cX10_laws 71 = .ok (.getfield 214, 3) := by decide +kernel
theorem dX10_laws_74 : decode cX10_laws 74 = .ok (.ireturn, 1) := by decide +kernel
theorem dX10_law_0 : decode cX10_law 0 = .ok (.iload_n 1, 1) := by decide +kernel
theorem dX10_law_1 : decode cX10_law 1 = .ok (.iconst 0, 1) := by decide +kernel
theorem dX10_law_2 : decode cX10_law 2 = .ok (.iconst 5, 1) := by decide +kernel
theorem dX10_law_3 : decode cX10_law 3 = .ok (.invokestatic 137, 3) := by decide +kernel
theorem dX10_law_6 : decode cX10_law 6 = .ok (.ifCond .eq 15, 3) := by decide +kernel
theorem dX10_law_9 : decode cX10_law 9 = .ok (.aload_n 0, 1) := by decide +kernel
theorem dX10_law_10 : decode cX10_law 10 = .ok (.getfield 26, 3) := by decide +kernel
theorem dX10_law_13 : decode cX10_law 13 = .ok (.getfield 198, 3) := by decide +kernel
theorem dX10_law_16 : decode cX10_law 16 = .ok (.iload_n 1, 1) := by decide +kernel
theorem dX10_law_17 : decode cX10_law 17 = .ok (.iaload, 1) := by decide +kernel
theorem dX10_law_18 : decode cX10_law 18 = .ok (.goto 9, 3) := by decide +kernel
theorem dX10_law_21 : decode cX10_law 21 = .ok (.aload_n 0, 1) := by decide +kernel
theorem dX10_law_22 : decode cX10_law 22 = .ok (.bipush (-5), 2) := by decide +kernel
theorem dX10_law_24 : decode cX10_law 24 = .ok (.invokevirtual 60, 3) := by decide +kernel
theorem dX10_law_27 : decode cX10_law 27 = .ok (.ireturn, 1) := by decide +kernel
theorem dX10_plan_0 : decode cX10_plan 0 = .ok (.aload_n 0, 1) := by decide +kernel
theorem dX10_plan_1 : decode cX10_plan 1 = .ok (.iload_n 1, 1) := by decide +kernel
theorem dX10_plan_2 : decode cX10_plan 2 = .ok (.invokevirtual 68, 3) := by decide +kernel
theorem dX10_plan_5 : decode cX10_plan 5 = .ok (.istore_n 2, 1) := by decide +kernel
theorem dX10_plan_6 : decode cX10_plan 6 = .ok (.iload_n 2, 1) := by decide +kernel
theorem dX10_plan_7 : decode cX10_plan 7 = .ok (.ifCond .eq 9, 3) := by decide +kernel
theorem dX10_plan_10 : decode cX10_plan 10 = .ok (.aload_n 0, 1) := by decide +kernel
theorem dX10_plan_11 : decode cX10_plan 11 = .ok (.iload_n 2, 1) := by decide +kernel
theorem dX10_plan_12 : decode cX10_plan 12 = .ok (.invokevirtual 60, 3) := by decide +kernel
theorem dX10_plan_15 : decode cX10_plan 15 = .ok (.ireturn, 1) := by decide +kernel
theorem dX10_plan_16 : decode cX10_plan 16 = .ok (.aload_n 0, 1) := by decide +kernel
theorem dX10_plan_17 : decode cX10_plan 17 = .ok (.getfield 36, 3) := by decide +kernel
theorem dX10_plan_20 : decode cX10_plan 20 = .ok (.aload_n 0, 1) := by decide +kernel
theorem dX10_plan_21 : decode cX10_plan 21 = .ok (.getfield 11, 3) := by decide +kernel
theorem dX10_plan_24 : decode cX10_plan 24 = .ok (.iload_n 1, 1) := by decide +kernel
theorem dX10_plan_25 : decode cX10_plan 25 = .ok (.aaload, 1) := by decide +kernel
theorem dX10_plan_26 : decode cX10_plan 26 = .ok (.aload_n 0, 1) := by decide +kernel
theorem dX10_plan_27 : decode cX10_plan 27 = .ok (.getfield 26, 3) := by decide +kernel
theorem dX10_plan_30 : decode cX10_plan 30 = .ok (.getfield 161, 3) := by decide +kernel
theorem dX10_plan_33 : decode cX10_plan 33 = .ok (.invokevirtual 217, 3) := by decide +kernel
theorem dX10_plan_36 : decode cX10_plan 36 = .ok (.ifCond .ne 10, 3) := by decide +kernel
theorem dX10_plan_39 : decode cX10_plan 39 = .ok (.aload_n 0, 1) := by decide +kernel
theorem dX10_plan_40 : decode cX10_plan 40 = .ok (.bipush (-6), 2) := by decide +kernel
theorem dX10_plan_42 : decode cX10_plan 42 = .ok (.invokevirtual 60, 3) := by decide +kernel
theorem dX10_plan_45 : decode cX10_plan 45 = .ok (.ireturn, 1) := by decide +kernel
theorem dX10_plan_46 : decode cX10_plan 46 = .ok (.aload_n 0, 1) := by decide +kernel
theorem dX10_plan_47 : decode cX10_plan 47 = .ok (.getfield 26, 3) := by decide +kernel
theorem dX10_plan_50 : decode cX10_plan 50 = .ok (.getfield 221, 3) := by decide +kernel
theorem dX10_plan_53 : decode cX10_plan 53 = .ok (.bipush 8, 2) := by decide +kernel
theorem dX10_plan_55 : decode cX10_plan 55 = .ok (.if_icmp .lt 10, 3) := by decide +kernel
theorem dX10_plan_58 : decode cX10_plan 58 = .ok (.aload_n 0, 1) := by decide +kernel
theorem dX10_plan_59 : decode cX10_plan 59 = .ok (.bipush (-7), 2) := by decide +kernel
theorem dX10_plan_61 : decode cX10_plan 61 = .ok (.invokevirtual 60, 3) := by decide +kernel
theorem dX10_plan_64 : decode cX10_plan 64 = .ok (.ireturn, 1) := by decide +kernel
theorem dX10_plan_65 : decode cX10_plan 65 = .ok (.aload_n 0, 1) := by decide +kernel
theorem dX10_plan_66 : decode cX10_plan 66 = .ok (.getfield 26, 3) := by decide +kernel
theorem dX10_plan_69 : decode cX10_plan 69 = .ok (.aload_n 0, 1) := by decide +kernel
theorem dX10_plan_70 : decode cX10_plan 70 = .ok (.getfield 36, 3) := by decide +kernel
theorem dX10_plan_73 : decode cX10_plan 73 = .ok (.getfield 224, 3) := by decide +kernel
theorem dX10_plan_76 : decode cX10_plan 76 = .ok (.invokevirtual 228, 3) := by decide +kernel
theorem dX10_plan_79 : decode cX10_plan 79 = .ok (.ireturn, 1) := by decide +kernel
theorem dX10_fault_0 : decode cX10_fault 0 = .ok (.aload_n 0, 1) := by decide +kernel
theorem dX10_fault_1 : decode cX10_fault 1 = .ok (.getfield 36, 3) := by decide +kernel
theorem dX10_fault_4 : decode cX10_fault 4 = .ok (.getfield 232, 3) := by decide +kernel
theorem dX10_fault_7 : decode cX10_fault 7 = .ok (.ireturn, 1) := by decide +kernel
theorem dX10_force_0 : decode cX10_force 0 = .ok (.iload_n 1, 1) := by decide +kernel
theorem dX10_force_1 : decode cX10_force 1 = .ok (.iconst (-1), 1) := by decide +kernel
theorem dX10_force_2 : decode cX10_force 2 = .ok (.if_icmp .eq 29, 3) := by decide +kernel
theorem dX10_force_5 : decode cX10_force 5 = .ok (.iload_n 1, 1) := by decide +kernel
theorem dX10_force_6 : decode cX10_force 6 = .ok (.iconst 0, 1) := by decide +kernel
theorem dX10_force_7 : decode cX10_force 7 = .ok (.aload_n 0, 1) := by decide +kernel
theorem dX10_force_8 : decode cX10_force 8 = .ok (.getfield 26, 3) := by decide +kernel
theorem dX10_force_11 : decode cX10_force 11 = .ok (.getfield 221, 3) := by decide +kernel
theorem dX10_force_14 : decode cX10_force 14 = .ok (.iconst 1, 1) := by decide +kernel
theorem dX10_force_15 : decode cX10_force 15 = .ok (.isub, 1) := by decide +kernel
theorem dX10_force_16 : decode cX10_force 16 = .ok (.invokestatic 137, 3) := by decide +kernel
theorem dX10_force_19 : decode cX10_force 19 = .ok (.ifCond .ne 12, 3) := by decide +kernel
theorem dX10_force_22 : decode cX10_force 22 = .ok (.aload_n 0, 1) := by decide +kernel
theorem dX10_force_23 : decode cX10_force 23 = .ok (.iconst (-1), 1) := by decide +kernel
theorem dX10_force_24 : decode cX10_force 24 = .ok (.invokevirtual 60, 3) := by decide +kernel
theorem dX10_force_27 : decode cX10_force 27 = .ok (.pop, 1) := by decide +kernel
theorem dX10_force_28 : decode cX10_force 28 = .ok (.bipush (-11), 2) := by decide +kernel
theorem dX10_force_30 : decode cX10_force 30 = .ok (.ireturn, 1) := by decide +kernel
theorem dX10_force_31 : decode cX10_force 31 = .ok (.aload_n 0, 1) := by decide +kernel
theorem dX10_force_32 : decode cX10_force 32 = .ok (.getfield 26, 3) := by decide +kernel
theorem dX10_force_35 : decode cX10_force 35 = .ok (.getfield 235, 3) := by decide +kernel
theorem dX10_force_38 : decode cX10_force 38 = .ok (.istore_n 2, 1) := by decide +kernel
theorem dX10_force_39 : decode cX10_force 39 = .ok (.aload_n 0, 1) := by decide +kernel
theorem dX10_force_40 : decode cX10_force 40 = .ok (.getfield 26, 3) := by decide +kernel
theorem dX10_force_43 : decode cX10_force 43 = .ok (.iload_n 1, 1) := by decide +kernel
theorem dX10_force_44 : decode cX10_force 44 = .ok (.putfield 235, 3) := by decide +kernel
theorem dX10_force_47 : decode cX10_force 47 = .ok (.iload_n 2, 1) := by decide +kernel
theorem dX10_force_48 : decode cX10_force 48 = .ok (.ireturn, 1) := by decide +kernel
theorem dX10_sounds_0 : decode cX10_sounds 0 = .ok (.aload_n 0, 1) := by decide +kernel
theorem dX10_sounds_1 : decode cX10_sounds 1 = .ok (.getfield 26, 3) := by decide +kernel
theorem dX10_sounds_4 : decode cX10_sounds 4 = .ok (.iload_n 1, 1) := by decide +kernel
theorem dX10_sounds_5 : decode cX10_sounds 5 = .ok (.invokevirtual 101, 3) := by decide +kernel
theorem dX10_sounds_8 : decode cX10_sounds 8 = .ok (.ifCond .eq 10, 3) := by decide +kernel
theorem dX10_sounds_11 : decode cX10_sounds 11 = .ok (.iload_n 2, 1) := by decide +kernel
theorem dX10_sounds_12 : decode cX10_sounds 12 = .ok (.invokestatic 195, 3) := by decide +kernel
theorem dX10_sounds_15 : decode cX10_sounds 15 = .ok (.ifCond .ne 5, 3) := by decide +kernel
theorem dX10_sounds_18 : decode cX10_sounds 18 = .ok (.iconst (-1), 1) := by decide +kernel
theorem dX10_sounds_19 : decode cX10_sounds 19 = .ok (.ireturn, 1) := by decide +kernel
theorem dX10_sounds_20 : decode cX10_sounds 20 = .ok (.aload_n 0, 1) := by decide +kernel
theorem dX10_sounds_21 : decode cX10_sounds 21 = .ok (.getfield 26, 3) := by decide +kernel
theorem dX10_sounds_24 : decode cX10_sounds 24 = .ok (.iload_n 2, 1) := by decide +kernel
theorem dX10_sounds_25 : decode cX10_sounds 25 = .ok (.invokevirtual 238, 3) := by decide +kernel
theorem dX10_sounds_28 : decode cX10_sounds 28 = .ok (.iload_n 1, 1) := by decide +kernel
theorem dX10_sounds_29 : decode cX10_sounds 29 = .ok (.invokestatic 241, 3) := by decide +kernel
theorem dX10_sounds_32 : decode cX10_sounds 32 = .ok (.ifCond .eq 7, 3) := by decide +kernel
theorem dX10_sounds_35 : decode cX10_sounds 35 = .ok (.iconst 1, 1) := by decide +kernel
theorem dX10_sounds_36 : decode cX10_sounds 36 = .ok (.goto 4, 3) := by decide +kernel
theorem dX10_sounds_39 : decode cX10_sounds 39 = .ok (.iconst 0, 1) := by decide +kernel
theorem dX10_sounds_40 : decode cX10_sounds 40 = .ok (.ireturn, 1) := by decide +kernel
theorem dX10_reach_0 : decode cX10_reach 0 = .ok (.aload_n 0, 1) := by decide +kernel
theorem dX10_reach_1 : decode cX10_reach 1 = .ok (.getfield 26, 3) := by decide +kernel
theorem dX10_reach_4 : decode cX10_reach 4 = .ok (.iload_n 1, 1) := by decide +kernel
theorem dX10_reach_5 : decode cX10_reach 5 = .ok (.invokevirtual 101, 3) := by decide +kernel
theorem dX10_reach_8 : decode cX10_reach 8 = .ok (.ifCond .eq 22, 3) := by decide +kernel
theorem dX10_reach_11 : decode cX10_reach 11 = .ok (.iload_n 2, 1) := by decide +kernel
theorem dX10_reach_12 : decode cX10_reach 12 = .ok (.invokestatic 131, 3) := by decide +kernel
theorem dX10_reach_15 : decode cX10_reach 15 = .ok (.ifCond .eq 15, 3) := by decide +kernel
theorem dX10_reach_18 : decode cX10_reach 18 = .ok (.aload_n 0, 1) := by decide +kernel
theorem dX10_reach_19 : decode cX10_reach 19 = .ok (.getfield 26, 3) := by decide +kernel
theorem dX10_reach_22 : decode cX10_reach 22 = .ok (.iload_n 1, 1) := by decide +kernel
theorem dX10_reach_23 : decode cX10_reach 23 = .ok (.iload_n 2, 1) := by decide +kernel
theorem dX10_reach_24 : decode cX10_reach 24 = .ok (.invokevirtual 244, 3) := by decide +kernel
theorem dX10_reach_27 : decode cX10_reach 27 = .ok (.goto 4, 3) := by decide +kernel
theorem dX10_reach_30 : decode cX10_reach 30 = .ok (.iconst (-1), 1) := by decide +kernel
theorem dX10_reach_31 : decode cX10_reach 31 = .ok (.ireturn, 1) := by decide +kernel
theorem dX10_needs_0 : decode cX10_needs 0 = .ok (.aload_n 0, 1) := by decide +kernel
theorem dX10_needs_1 : decode cX10_needs 1 = .ok (.getfield 26, 3) := by decide +kernel
theorem dX10_needs_4 : decode cX10_needs 4 = .ok (.iload_n 1, 1) := by decide +kernel
theorem dX10_needs_5 : decode cX10_needs 5 = .ok (.invokevirtual 149, 3) := by decide +kernel
theorem dX10_needs_8 : decode cX10_needs 8 = .ok (.ifCond .eq 26, 3) := by decide +kernel
theorem dX10_needs_11 : decode cX10_needs 11 = .ok (.iload_n 2, 1) := by decide +kernel
theorem dX10_needs_12 : decode cX10_needs 12 = .ok (.invokestatic 134, 3) := by decide +kernel
theorem dX10_needs_15 : decode cX10_needs 15 = .ok (.ifCond .eq 19, 3) := by decide +kernel
theorem dX10_needs_18 : decode cX10_needs 18 = .ok (.aload_n 0, 1) := by decide +kernel
theorem dX10_needs_19 : decode cX10_needs 19 = .ok (.getfield 26, 3) := by decide +kernel
theorem dX10_needs_22 : decode cX10_needs 22 = .ok (.getfield 152, 3) := by decide +kernel
theorem dX10_needs_25 : decode cX10_needs 25 = .ok (.iload_n 1, 1) := by decide +kernel
theorem dX10_needs_26 : decode cX10_needs 26 = .ok (.aaload, 1) := by decide +kernel
theorem dX10_needs_27 : decode cX10_needs 27 = .ok (.iload_n 2, 1) := by decide +kernel
theorem dX10_needs_28 : decode cX10_needs 28 = .ok (.invokevirtual 247, 3) := by decide +kernel
theorem dX10_needs_31 : decode cX10_needs 31 = .ok (.goto 4, 3) := by decide +kernel
theorem dX10_needs_34 : decode cX10_needs 34 = .ok (.iconst (-1), 1) := by decide +kernel
theorem dX10_needs_35 : decode cX10_needs 35 = .ok (.ireturn, 1) := by decide +kernel
theorem dX10_hears_0 : decode cX10_hears 0 = .ok (.aload_n 0, 1) := by decide +kernel
theorem dX10_hears_1 : decode cX10_hears 1 = .ok (.getfield 26, 3) := by decide +kernel
theorem dX10_hears_4 : decode cX10_hears 4 = .ok (.iload_n 1, 1) := by decide +kernel
theorem dX10_hears_5 : decode cX10_hears 5 = .ok (.invokevirtual 149, 3) := by decide +kernel
theorem dX10_hears_8 : decode cX10_hears 8 = .ok (.ifCond .eq 22, 3) := by decide +kernel
theorem dX10_hears_11 : decode cX10_hears 11 = .ok (.iload_n 2, 1) := by decide +kernel
theorem dX10_hears_12 : decode cX10_hears 12 = .ok (.invokestatic 195, 3) := by decide +kernel
theorem dX10_hears_15 : decode cX10_hears 15 = .ok (.ifCond .eq 15, 3) := by decide +kernel
theorem dX10_hears_18 : decode cX10_hears 18 = .ok (.aload_n 0, 1) := by decide +kernel
theorem dX10_hears_19 : decode cX10_hears 19 = .ok (.getfield 26, 3) := by decide +kernel
theorem dX10_hears_22 : decode cX10_hears 22 = .ok (.iload_n 1, 1) := by decide +kernel
theorem dX10_hears_23 : decode cX10_hears 23 = .ok (.iload_n 2, 1) := by decide +kernel
theorem dX10_hears_24 : decode cX10_hears 24 = .ok (.invokevirtual 250, 3) := by decide +kernel
theorem dX10_hears_27 : decode cX10_hears 27 = .ok (.goto 4, 3) := by decide +kernel
theorem dX10_hears_30 : decode cX10_hears 30 = .ok (.iconst (-1), 1) := by decide +kernel
theorem dX10_hears_31 : decode cX10_hears 31 = .ok (.ireturn, 1) := by decide +kernel
theorem dX10_loudest_0 : decode cX10_loudest 0 = .ok (.aload_n 0, 1) := by decide +kernel
theorem dX10_loudest_1 : decode cX10_loudest 1 = .ok (.getfield 26, 3) := by decide +kernel
theorem dX10_loudest_4 : decode cX10_loudest 4 = .ok (.iload_n 1, 1) := by decide +kernel
theorem dX10_loudest_5 : decode cX10_loudest 5 = .ok (.invokevirtual 149, 3) := by decide +kernel
theorem dX10_loudest_8 : decode cX10_loudest 8 = .ok (.ifCond .eq 22, 3) := by decide +kernel
theorem dX10_loudest_11 : decode cX10_loudest 11 = .ok (.iload_n 2, 1) := by decide +kernel
theorem dX10_loudest_12 : decode cX10_loudest 12 = .ok (.invokestatic 195, 3) := by decide +kernel
theorem dX10_loudest_15 : decode cX10_loudest 15 = .ok (.ifCond .eq 15, 3) := by decide +kernel
theorem dX10_loudest_18 : decode cX10_loudest 18 = .ok (.aload_n 0, 1) := by decide +kernel
theorem dX10_loudest_19 : decode cX10_loudest 19 = .ok (.getfield 26, 3) := by decide +kernel
theorem dX10_loudest_22 : decode cX10_loudest 22 = .ok (.iload_n 1, 1) := by decide +kernel
theorem dX10_loudest_23 : decode cX10_loudest 23 = .ok (.iload_n 2, 1) := by decide +kernel
theorem dX10_loudest_24 : decode cX10_loudest 24 = .ok (.invokevirtual 253, 3) := by decide +kernel
theorem dX10_loudest_27 : decode cX10_loudest 27 = .ok (.goto 4, 3) := by decide +kernel
theorem dX10_loudest_30 : decode cX10_loudest 30 = .ok (.iconst (-1), 1) := by decide +kernel
theorem dX10_loudest_31 : decode cX10_loudest 31 = .ok (.ireturn, 1) := by decide +kernel
theorem dX10_press_0 : decode cX10_press 0 = .ok (.aload_n 0, 1) := by decide +kernel
theorem dX10_press_1 : decode cX10_press 1 = .ok (.getfield 26, 3) := by decide +kernel
theorem dX10_press_4 : decode cX10_press 4 = .ok (.iload_n 1, 1) := by decide +kernel
theorem dX10_press_5 : decode cX10_press 5 = .ok (.invokevirtual 149, 3) := by decide +kernel
theorem dX10_press_8 : decode cX10_press 8 = .ok (.ifCond .ne 9, 3) := by decide +kernel
theorem dX10_press_11 : decode cX10_press 11 = .ok (.aload_n 0, 1) := by decide +kernel
theorem dX10_press_12 : decode cX10_press 12 = .ok (.iconst (-1), 1) := by decide +kernel
theorem dX10_press_13 : decode cX10_press 13 = .ok (.invokevirtual 60, 3) := by decide +kernel
theorem dX10_press_16 : decode cX10_press 16 = .ok (.ireturn, 1) := by decide +kernel
theorem dX10_press_17 : decode cX10_press 17 = .ok (.aload_n 0, 1) := by decide +kernel
theorem dX10_press_18 : decode cX10_press 18 = .ok (.getfield 26, 3) := by decide +kernel
theorem dX10_press_21 : decode cX10_press 21 = .ok (.getfield 256, 3) := by decide +kernel
theorem dX10_press_24 : decode cX10_press 24 = .ok (.getfield 260, 3) := by decide +kernel
theorem dX10_press_27 : decode cX10_press 27 = .ok (.bipush 60, 2) := by decide +kernel
theorem dX10_press_29 : decode cX10_press 29 = .ok (.if_icmp .lt 10, 3) := by decide +kernel
theorem dX10_press_32 : decode cX10_press 32 = .ok (.aload_n 0, 1) := by decide +kernel
theorem dX10_press_33 : decode cX10_press 33 = .ok (.bipush (-7), 2) := by decide +kernel
theorem dX10_press_35 : decode cX10_press 35 = .ok (.invokevirtual 60, 3) := by decide +kernel
theorem dX10_press_38 : decode cX10_press 38 = .ok (.ireturn, 1) := by decide +kernel
theorem dX10_press_39 : decode cX10_press 39 = .ok (.aload_n 0, 1) := by decide +kernel
theorem dX10_press_40 : decode cX10_press 40 = .ok (.getfield 26, 3) := by decide +kernel
theorem dX10_press_43 : decode cX10_press 43 = .ok (.getfield 256, 3) := by decide +kernel
theorem dX10_press_46 : decode cX10_press 46 = .ok (.iload_n 1, 1) := by decide +kernel
theorem dX10_press_47 : decode cX10_press 47 = .ok (.aload_n 0, 1) := by decide +kernel
theorem dX10_press_48 : decode cX10_press 48 = .ok (.getfield 26, 3) := by decide +kernel
theorem dX10_press_51 : decode cX10_press 51 = .ok (.getfield 192, 3) := by decide +kernel
theorem dX10_press_54 : decode cX10_press 54 = .ok (.aload_n 0, 1) := by decide +kernel
theorem dX10_press_55 : decode cX10_press 55 = .ok (.getfield 26, 3) := by decide +kernel
theorem dX10_press_58 : decode cX10_press 58 = .ok (.getfield 152, 3) := by decide +kernel
theorem dX10_press_61 : decode cX10_press 61 = .ok (.iload_n 1, 1) := by decide +kernel
theorem dX10_press_62 : decode cX10_press 62 = .ok (.aaload, 1) := by decide +kernel
theorem dX10_press_63 : decode cX10_press 63 = .ok (.getfield 156, 3) := by decide +kernel
theorem dX10_press_66 : decode cX10_press 66 = .ok (.iload_n 2, 1) := by decide +kernel
theorem dX10_press_67 : decode cX10_press 67 = .ok (.invokevirtual 265, 3) := by decide +kernel
theorem dX10_press_70 : decode cX10_press 70 = .ok (.aload_n 0, 1) := by decide +kernel
theorem dX10_press_71 : decode cX10_press 71 = .ok (.getfield 26, 3) := by decide +kernel
theorem dX10_press_74 : decode cX10_press 74 = .ok (.getfield 256, 3) := by decide +kernel
theorem dX10_press_77 : decode cX10_press 77 = .ok (.getfield 260, 3) := by decide +kernel
theorem dX10_press_80 : decode cX10_press 80 = .ok (.ireturn, 1) := by decide +kernel
theorem dX10_pressed_0 : decode cX10_pressed 0 = .ok (.aload_n 0, 1) := by decide +kernel
theorem dX10_pressed_1 : decode cX10_pressed 1 = .ok (.getfield 26, 3) := by decide +kernel
theorem dX10_pressed_4 : decode cX10_pressed 4 = .ok (.iload_n 1, 1) := by decide +kernel
theorem dX10_pressed_5 : decode cX10_pressed 5 = .ok (.invokevirtual 149, 3) := by decide +kernel
theorem dX10_pressed_8 : decode cX10_pressed 8 = .ok (.ifCond .ne 9, 3) := by decide +kernel
theorem dX10_pressed_11 : decode cX10_pressed 11 = .ok (.aload_n 0, 1) := by decide +kernel
theorem dX10_pressed_12 : decode cX10_pressed 12 = .ok (.iconst (-1), 1) := by decide +kernel
theorem dX10_pressed_13 : decode cX10_pressed 13 = .ok (.invokevirtual 60, 3) := by decide +kernel
theorem dX10_pressed_16 : decode cX10_pressed 16 = .ok (.ireturn, 1) := by decide +kernel
theorem dX10_pressed_17 : decode cX10_pressed 17 = .ok (.aload_n 0, 1) := by decide +kernel
theorem dX10_pressed_18 : decode cX10_pressed 18 = .ok (.iload_n 2, 1) := by decide +kernel
theorem dX10_pressed_19 : decode cX10_pressed 19 = .ok (.invokevirtual 68, 3) := by decide +kernel
theorem dX10_pressed_22 : decode cX10_pressed 22 = .ok (.istore 5, 2) := by decide +kernel
theorem dX10_pressed_24 : decode cX10_pressed 24 = .ok (.iload 5, 2) := by decide +kernel
theorem dX10_pressed_26 : decode cX10_pressed 26 = .ok (.ifCond .eq 10, 3) := by decide +kernel
theorem dX10_pressed_29 : decode cX10_pressed 29 = .ok (.aload_n 0, 1) := by decide +kernel
theorem dX10_pressed_30 : decode cX10_pressed 30 = .ok (.iload 5, 2) := by decide +kernel
theorem dX10_pressed_32 : decode cX10_pressed 32 = .ok (.invokevirtual 60, 3) := by decide +kernel
theorem dX10_pressed_35 : decode cX10_pressed 35 = .ok (.ireturn, 1) := by decide +kernel
theorem dX10_pressed_36 : decode cX10_pressed 36 = .ok (.aload_n 0, 1) := by decide +kernel
theorem dX10_pressed_37 : decode cX10_pressed 37 = .ok (.getfield 11, 3) := by decide +kernel
theorem dX10_pressed_40 : decode cX10_pressed 40 = .ok (.iload_n 2, 1) := by decide +kernel
theorem dX10_pressed_41 : decode cX10_pressed 41 = .ok (.aaload, 1) := by decide +kernel
theorem dX10_pressed_42 : decode cX10_pressed 42 = .ok (.astore 6, 2) := by decide +kernel
theorem dX10_pressed_44 : decode cX10_pressed 44 = .ok (.iload 4, 2) := by decide +kernel
theorem dX10_pressed_46 : decode cX10_pressed 46 = .ok (.ifCond .ge 10, 3) := by decide +kernel
theorem dX10_pressed_49 : decode cX10_pressed 49 = .ok (.aload_n 0, 1) := by decide +kernel
theorem dX10_pressed_50 : decode cX10_pressed 50 = .ok (.bipush (-4), 2) := by decide +kernel
theorem dX10_pressed_52 : decode cX10_pressed 52 = .ok (.invokevirtual 60, 3) := by decide +kernel
theorem dX10_pressed_55 : decode cX10_pressed 55 = .ok (.ireturn, 1) := by decide +kernel
theorem dX10_pressed_56 : decode cX10_pressed 56 = .ok (.aload 6, 2) := by decide +kernel
theorem dX10_pressed_58 : decode cX10_pressed 58 = .ok (.iload_n 3, 1) := by decide +kernel
theorem dX10_pressed_59 : decode cX10_pressed 59 = .ok (.iload 4, 2) := by decide +kernel
theorem dX10_pressed_61 : decode cX10_pressed 61 = .ok (.invokevirtual 89, 3) := by decide +kernel
theorem dX10_pressed_64 : decode cX10_pressed 64 = .ok (.ifCond .ne 10, 3) := by decide +kernel
theorem dX10_pressed_67 : decode cX10_pressed 67 = .ok (.aload_n 0, 1) := by decide +kernel
theorem dX10_pressed_68 : decode cX10_pressed 68 = .ok (.bipush (-5), 2) := by decide +kernel
theorem dX10_pressed_70 : decode cX10_pressed 70 = .ok (.invokevirtual 60, 3) := by decide +kernel
theorem dX10_pressed_73 : decode cX10_pressed 73 = .ok (.ireturn, 1) := by decide +kernel
theorem dX10_pressed_74 : decode cX10_pressed 74 = .ok (.aload_n 0, 1) := by decide +kernel
theorem dX10_pressed_75 : decode cX10_pressed 75 = .ok (.getfield 26, 3) := by decide +kernel
theorem dX10_pressed_78 : decode cX10_pressed 78 = .ok (.getfield 192, 3) := by decide +kernel
theorem dX10_pressed_81 : decode cX10_pressed 81 = .ok (.iload 4, 2) := by decide +kernel
theorem dX10_pressed_83 : decode cX10_pressed 83 = .ok (.if_icmp .ge 10, 3) := by decide +kernel
theorem dX10_pressed_86 : decode cX10_pressed 86 = .ok (.aload_n 0, 1) := by decide +kernel
theorem dX10_pressed_87 : decode cX10_pressed 87 = .ok (.bipush (-6), 2) := by decide +kernel
theorem dX10_pressed_89 : decode cX10_pressed 89 = .ok (.invokevirtual 60, 3) := by decide +kernel
theorem dX10_pressed_92 : decode cX10_pressed 92 = .ok (.ireturn, 1) := by decide +kernel
theorem dX10_pressed_93 : decode cX10_pressed 93 = .ok (.aload_n 0, 1) := by decide +kernel
theorem dX10_pressed_94 : decode cX10_pressed 94 = .ok (.getfield 26, 3) := by decide +kernel
theorem dX10_pressed_97 : decode cX10_pressed 97 = .ok (.getfield 256, 3) := by decide +kernel
theorem dX10_pressed_100 : decode cX10_pressed 100 = .ok (.getfield 260, 3) := by decide +kernel
theorem dX10_pressed_103 : decode cX10_pressed 103 = .ok (.aload 6, 2) := by decide +kernel
theorem dX10_pressed_105 : decode cX10_pressed 105 = .ok (.iload_n 3, 1) := by decide +kernel
theorem dX10_pressed_106 : decode cX10_pressed 106 = .ok (.iload 4, 2) := by decide +kernel
theorem dX10_pressed_108 : decode cX10_pressed 108 = .ok (.invokevirtual 269, 3) := by decide +kernel
theorem dX10_pressed_111 : decode cX10_pressed 111 = .ok (.iadd, 1) := by decide +kernel
theorem dX10_pressed_112 : decode cX10_pressed 112 = .ok (.bipush 60, 2) := by decide +kernel
theorem dX10_pressed_114 : decode cX10_pressed 114 = .ok (.if_icmp .le 10, 3) := by decide +kernel
theorem dX10_pressed_117 : decode cX10_pressed 117 = .ok (.aload_n 0, 1) := by decide +kernel
theorem dX10_pressed_118 : decode cX10_pressed 118 = .ok (.bipush (-7), 2) := by decide +kernel
theorem dX10_pressed_120 : decode cX10_pressed 120 = .ok (.invokevirtual 60, 3) := by decide +kernel
theorem dX10_pressed_123 : decode cX10_pressed 123 = .ok (.ireturn, 1) := by decide +kernel
theorem dX10_pressed_124 : decode cX10_pressed 124 = .ok (.aload_n 0, 1) := by decide +kernel
theorem dX10_pressed_125 : decode cX10_pressed 125 = .ok (.getfield 26, 3) := by decide +kernel
theorem dX10_pressed_128 : decode cX10_pressed 128 = .ok (.iload_n 1, 1) := by decide +kernel
theorem dX10_pressed_129 : decode cX10_pressed 129 = .ok (.aload 6, 2) := by decide +kernel
theorem dX10_pressed_131 : decode cX10_pressed 131 = .ok (.iload_n 3, 1) := by decide +kernel
theorem dX10_pressed_132 : decode cX10_pressed 132 = .ok (.iload 4, 2) := by decide +kernel
theorem dX10_pressed_134 : decode cX10_pressed 134 = .ok (.invokevirtual 272, 3) := by decide +kernel
theorem dX10_pressed_137 : decode cX10_pressed 137 = .ok (.aload_n 0, 1) := by decide +kernel
theorem dX10_pressed_138 : decode cX10_pressed 138 = .ok (.getfield 26, 3) := by decide +kernel
theorem dX10_pressed_141 : decode cX10_pressed 141 = .ok (.getfield 256, 3) := by decide +kernel
theorem dX10_pressed_144 : decode cX10_pressed 144 = .ok (.getfield 260, 3) := by decide +kernel
theorem dX10_pressed_147 : decode cX10_pressed 147 = .ok (.ireturn, 1) := by decide +kernel
theorem dX10_match_0 : decode cX10_match 0 = .ok (.aload_n 0, 1) := by decide +kernel
theorem dX10_match_1 : decode cX10_match 1 = .ok (.getfield 26, 3) := by decide +kernel
theorem dX10_match_4 : decode cX10_match 4 = .ok (.iload_n 1, 1) := by decide +kernel
theorem dX10_match_5 : decode cX10_match 5 = .ok (.invokevirtual 149, 3) := by decide +kernel
theorem dX10_match_8 : decode cX10_match 8 = .ok (.ifCond .ne 9, 3) := by decide +kernel
theorem dX10_match_11 : decode cX10_match 11 = .ok (.aload_n 0, 1) := by decide +kernel
theorem dX10_match_12 : decode cX10_match 12 = .ok (.iconst (-1), 1) := by decide +kernel
theorem dX10_match_13 : decode cX10_match 13 = .ok (.invokevirtual 60, 3) := by decide +kernel
theorem dX10_match_16 : decode cX10_match 16 = .ok (.ireturn, 1) := by decide +kernel
theorem dX10_match_17 : decode cX10_match 17 = .ok (.iload_n 2, 1) := by decide +kernel
theorem dX10_match_18 : decode cX10_match 18 = .ok (.invokestatic 134, 3) := by decide +kernel
theorem dX10_match_21 : decode cX10_match 21 = .ok (.ifCond .ne 10, 3) := by decide +kernel
theorem dX10_match_24 : decode cX10_match 24 = .ok (.aload_n 0, 1) := by decide +kernel
theorem dX10_match_25 : decode cX10_match 25 = .ok (.bipush (-6), 2) := by decide +kernel
theorem dX10_match_27 : decode cX10_match 27 = .ok (.invokevirtual 60, 3) := by decide +kernel
theorem dX10_match_30 : decode cX10_match 30 = .ok (.ireturn, 1) := by decide +kernel
theorem dX10_match_31 : decode cX10_match 31 = .ok (.aload_n 0, 1) := by decide +kernel
theorem dX10_match_32 : decode cX10_match 32 = .ok (.getfield 26, 3) := by decide +kernel
theorem dX10_match_35 : decode cX10_match 35 = .ok (.getfield 256, 3) := by decide +kernel
theorem dX10_match_38 : decode cX10_match 38 = .ok (.getfield 275, 3) := by decide +kernel
theorem dX10_match_41 : decode cX10_match 41 = .ok (.bipush 20, 2) := by decide +kernel
theorem dX10_match_43 : decode cX10_match 43 = .ok (.if_icmp .lt 10, 3) := by decide +kernel
theorem dX10_match_46 : decode cX10_match 46 = .ok (.aload_n 0, 1) := by decide +kernel
theorem dX10_match_47 : decode cX10_match 47 = .ok (.bipush (-7), 2) := by decide +kernel
theorem dX10_match_49 : decode cX10_match 49 = .ok (.invokevirtual 60, 3) := by decide +kernel
theorem dX10_match_52 : decode cX10_match 52 = .ok (.ireturn, 1) := by decide +kernel
theorem dX10_match_53 : decode cX10_match 53 = .ok (.aload_n 0, 1) := by decide +kernel
theorem dX10_match_54 : decode cX10_match 54 = .ok (.getfield 26, 3) := by decide +kernel
theorem dX10_match_57 : decode cX10_match 57 = .ok (.getfield 256, 3) := by decide +kernel
theorem dX10_match_60 : decode cX10_match 60 = .ok (.iload_n 1, 1) := by decide +kernel
theorem dX10_match_61 : decode cX10_match 61 = .ok (.iload_n 2, 1) := by decide +kernel
theorem dX10_match_62 : decode cX10_match 62 = .ok (.invokevirtual 278, 3) := by decide +kernel
theorem dX10_match_65 : decode cX10_match 65 = .ok (.aload_n 0, 1) := by decide +kernel
theorem dX10_match_66 : decode cX10_match 66 = .ok (.getfield 26, 3) := by decide +kernel
theorem dX10_match_69 : decode cX10_match 69 = .ok (.getfield 256, 3) := by decide +kernel
theorem dX10_match_72 : decode cX10_match 72 = .ok (.getfield 275, 3) := by decide +kernel
theorem dX10_match_75 : decode cX10_match 75 = .ok (.ireturn, 1) := by decide +kernel
theorem dX10_letter_0 : decode cX10_letter 0 = .ok (.aload_n 0, 1) := by decide +kernel
theorem dX10_letter_1 : decode cX10_letter 1 = .ok (.getfield 26, 3) := by decide +kernel
theorem dX10_letter_4 : decode cX10_letter 4 = .ok (.iload_n 1, 1) := by decide +kernel
theorem dX10_letter_5 : decode cX10_letter 5 = .ok (.invokevirtual 149, 3) := by decide +kernel
theorem dX10_letter_8 : decode cX10_letter 8 = .ok (.ifCond .ne 9, 3) := by decide +kernel
theorem dX10_letter_11 : decode cX10_letter 11 = .ok (.aload_n 0, 1) := by decide +kernel
theorem dX10_letter_12 : decode cX10_letter 12 = .ok (.iconst (-1), 1) := by decide +kernel
theorem dX10_letter_13 : decode cX10_letter 13 = .ok (.invokevirtual 60, 3) := by decide +kernel
theorem dX10_letter_16 : decode cX10_letter 16 = .ok (.ireturn, 1) := by decide +kernel
theorem dX10_letter_17 : decode cX10_letter 17 = .ok (.iload_n 2, 1) := by decide +kernel
theorem dX10_letter_18 : decode cX10_letter 18 = .ok (.iconst 0, 1) := by decide +kernel
theorem dX10_letter_19 : decode cX10_letter 19 = .ok (.aload_n 0, 1) := by decide +kernel
theorem dX10_letter_20 : decode cX10_letter 20 = .ok (.getfield 26, 3) := by decide +kernel
theorem dX10_letter_23 : decode cX10_letter 23 = .ok (.getfield 192, 3) := by decide +kernel
theorem dX10_letter_26 : decode cX10_letter 26 = .ok (.invokestatic 137, 3) := by decide +kernel
theorem dX10_letter_29 : decode cX10_letter 29 = .ok (.ifCond .ne 10, 3) := by decide +kernel
theorem dX10_letter_32 : decode cX10_letter 32 = .ok (.aload_n 0, 1) := by decide +kernel
theorem dX10_letter_33 : decode cX10_letter 33 = .ok (.bipush (-6), 2) := by decide +kernel
theorem dX10_letter_35 : decode cX10_letter 35 = .ok (.invokevirtual 60, 3) := by decide +kernel
theorem dX10_letter_38 : decode cX10_letter 38 = .ok (.ireturn, 1) := by decide +kernel
theorem dX10_letter_39 : decode cX10_letter 39 = .ok (.aload_n 0, 1) := by decide +kernel
theorem dX10_letter_40 : decode cX10_letter 40 = .ok (.getfield 26, 3) := by decide +kernel
theorem dX10_letter_43 : decode cX10_letter 43 = .ok (.getfield 281, 3) := by decide +kernel
theorem dX10_letter_46 : decode cX10_letter 46 = .ok (.getfield 285, 3) := by decide +kernel
theorem dX10_letter_49 : decode cX10_letter 49 = .ok (.bipush 30, 2) := by decide +kernel
theorem dX10_letter_51 : decode cX10_letter 51 = .ok (.if_icmp .lt 10, 3) := by decide +kernel
theorem dX10_letter_54 : decode cX10_letter 54 = .ok (.aload_n 0, 1) := by decide +kernel
theorem dX10_letter_55 : decode cX10_letter 55 = .ok (.bipush (-7), 2) := by decide +kernel
theorem dX10_letter_57 : decode cX10_letter 57 = .ok (.invokevirtual 60, 3) := by decide +kernel
theorem dX10_letter_60 : decode cX10_letter 60 = .ok (.ireturn, 1) := by decide +kernel
theorem dX10_letter_61 : decode cX10_letter 61 = .ok (.aload_n 0, 1) := by decide +kernel
theorem dX10_letter_62 : decode cX10_letter 62 = .ok (.getfield 26, 3) := by decide +kernel
theorem dX10_letter_65 : decode cX10_letter 65 = .ok (.getfield 281, 3) := by decide +kernel
theorem dX10_letter_68 : decode cX10_letter 68 = .ok (.iload_n 1, 1) := by decide +kernel
theorem dX10_letter_69 : decode cX10_letter 69 = .ok (.aload_n 0, 1) := by decide +kernel
theorem dX10_letter_70 : decode cX10_letter 70 = .ok (.getfield 26, 3) := by decide +kernel
theorem dX10_letter_73 : decode cX10_letter 73 = .ok (.getfield 192, 3) := by decide +kernel
theorem dX10_letter_76 : decode cX10_letter 76 = .ok (.iload_n 2, 1) := by decide +kernel
theorem dX10_letter_77 : decode cX10_letter 77 = .ok (.invokevirtual 290, 3) := by decide +kernel
theorem dX10_letter_80 : decode cX10_letter 80 = .ok (.aload_n 0, 1) := by decide +kernel
theorem dX10_letter_81 : decode cX10_letter 81 = .ok (.getfield 26, 3) := by decide +kernel
theorem dX10_letter_84 : decode cX10_letter 84 = .ok (.getfield 281, 3) := by decide +kernel
theorem dX10_letter_87 : decode cX10_letter 87 = .ok (.getfield 285, 3) := by decide +kernel
theorem dX10_letter_90 : decode cX10_letter 90 = .ok (.ireturn, 1) := by decide +kernel
theorem dX10_odds_0 : decode cX10_odds 0 = .ok (.aload_n 0, 1) := by decide +kernel
theorem dX10_odds_1 : decode cX10_odds 1 = .ok (.getfield 26, 3) := by decide +kernel
theorem dX10_odds_4 : decode cX10_odds 4 = .ok (.iload_n 1, 1) := by decide +kernel
theorem dX10_odds_5 : decode cX10_odds 5 = .ok (.invokevirtual 149, 3) := by decide +kernel
theorem dX10_odds_8 : decode cX10_odds 8 = .ok (.ifCond .eq 14, 3) := by decide +kernel
theorem dX10_odds_11 : decode cX10_odds 11 = .ok (.aload_n 0, 1) := by decide +kernel
theorem dX10_odds_12 : decode cX10_odds 12 = .ok (.getfield 26, 3) := by decide +kernel
theorem dX10_odds_15 : decode cX10_odds 15 = .ok (.iload_n 2, 1) := by decide +kernel
theorem dX10_odds_16 : decode cX10_odds 16 = .ok (.invokevirtual 101, 3) := by decide +kernel
theorem dX10_odds_19 : decode cX10_odds 19 = .ok (.ifCond .ne 5, 3) := by decide +kernel
theorem dX10_odds_22 : decode cX10_odds 22 = .ok (.lconst 0, 1) := by decide +kernel
theorem dX10_odds_23 : decode cX10_odds 23 = .ok (.lreturn, 1) := by decide +kernel
theorem dX10_odds_24 : decode cX10_odds 24 = .ok (.aload_n 0, 1) := by decide +kernel
theorem dX10_odds_25 : decode cX10_odds 25 = .ok (.getfield 18, 3) := by decide +kernel
theorem dX10_odds_28 : decode cX10_odds 28 = .ok (.iload_n 1, 1) := by decide +kernel
theorem dX10_odds_29 : decode cX10_odds 29 = .ok (.invokevirtual 294, 3) := by decide +kernel
theorem dX10_odds_32 : decode cX10_odds 32 = .ok (.aload_n 0, 1) := by decide +kernel
theorem dX10_odds_33 : decode cX10_odds 33 = .ok (.getfield 18, 3) := by decide +kernel
theorem dX10_odds_36 : decode cX10_odds 36 = .ok (.getfield 297, 3) := by decide +kernel
theorem dX10_odds_39 : decode cX10_odds 39 = .ok (.iload_n 2, 1) := by decide +kernel
theorem dX10_odds_40 : decode cX10_odds 40 = .ok (.laload, 1) := by decide +kernel
theorem dX10_odds_41 : decode cX10_odds 41 = .ok (.lreturn, 1) := by decide +kernel
theorem dX10_sure_0 : decode cX10_sure 0 = .ok (.aload_n 0, 1) := by decide +kernel
theorem dX10_sure_1 : decode cX10_sure 1 = .ok (.getfield 26, 3) := by decide +kernel
theorem dX10_sure_4 : decode cX10_sure 4 = .ok (.iload_n 1, 1) := by decide +kernel
theorem dX10_sure_5 : decode cX10_sure 5 = .ok (.invokevirtual 149, 3) := by decide +kernel
theorem dX10_sure_8 : decode cX10_sure 8 = .ok (.ifCond .eq 13, 3) := by decide +kernel
theorem dX10_sure_11 : decode cX10_sure 11 = .ok (.iload_n 2, 1) := by decide +kernel
theorem dX10_sure_12 : decode cX10_sure 12 = .ok (.iconst 1, 1) := by decide +kernel
theorem dX10_sure_13 : decode cX10_sure 13 = .ok (.bipush 100, 2) := by decide +kernel
theorem dX10_sure_15 : decode cX10_sure 15 = .ok (.invokestatic 137, 3) := by decide +kernel
theorem dX10_sure_18 : decode cX10_sure 18 = .ok (.ifCond .ne 5, 3) := by decide +kernel
theorem dX10_sure_21 : decode cX10_sure 21 = .ok (.iconst (-1), 1) := by decide +kernel
theorem dX10_sure_22 : decode cX10_sure 22 = .ok (.ireturn, 1) := by decide +kernel
theorem dX10_sure_23 : decode cX10_sure 23 = .ok (.aload_n 0, 1) := by decide +kernel
theorem dX10_sure_24 : decode cX10_sure 24 = .ok (.getfield 18, 3) := by decide +kernel
theorem dX10_sure_27 : decode cX10_sure 27 = .ok (.iload_n 1, 1) := by decide +kernel
theorem dX10_sure_28 : decode cX10_sure 28 = .ok (.invokevirtual 294, 3) := by decide +kernel
theorem dX10_sure_31 : decode cX10_sure 31 = .ok (.aload_n 0, 1) := by decide +kernel
theorem dX10_sure_32 : decode cX10_sure 32 = .ok (.getfield 18, 3) := by decide +kernel
theorem dX10_sure_35 : decode cX10_sure 35 = .ok (.iload_n 2, 1) := by decide +kernel
theorem dX10_sure_36 : decode cX10_sure 36 = .ok (.invokevirtual 301, 3) := by decide +kernel
theorem dX10_sure_39 : decode cX10_sure 39 = .ok (.ireturn, 1) := by decide +kernel
theorem dX10_could_0 : decode cX10_could 0 = .ok (.aload_n 0, 1) := by decide +kernel
theorem dX10_could_1 : decode cX10_could 1 = .ok (.getfield 26, 3) := by decide +kernel
theorem dX10_could_4 : decode cX10_could 4 = .ok (.iload_n 1, 1) := by decide +kernel
theorem dX10_could_5 : decode cX10_could 5 = .ok (.invokevirtual 149, 3) := by decide +kernel
theorem dX10_could_8 : decode cX10_could 8 = .ok (.ifCond .eq 10, 3) := by decide +kernel
theorem dX10_could_11 : decode cX10_could 11 = .ok (.iload_n 2, 1) := by decide +kernel
theorem dX10_could_12 : decode cX10_could 12 = .ok (.invokestatic 134, 3) := by decide +kernel
theorem dX10_could_15 : decode cX10_could 15 = .ok (.ifCond .ne 5, 3) := by decide +kernel
theorem dX10_could_18 : decode cX10_could 18 = .ok (.iconst (-1), 1) := by decide +kernel
theorem dX10_could_19 : decode cX10_could 19 = .ok (.ireturn, 1) := by decide +kernel
theorem dX10_could_20 : decode cX10_could 20 = .ok (.aload_n 0, 1) := by decide +kernel
theorem dX10_could_21 : decode cX10_could 21 = .ok (.getfield 26, 3) := by decide +kernel
theorem dX10_could_24 : decode cX10_could 24 = .ok (.invokevirtual 304, 3) := by decide +kernel
theorem dX10_could_27 : decode cX10_could 27 = .ok (.aload_n 0, 1) := by decide +kernel
theorem dX10_could_28 : decode cX10_could 28 = .ok (.getfield 26, 3) := by decide +kernel
theorem dX10_could_31 : decode cX10_could 31 = .ok (.iload_n 2, 1) := by decide +kernel
theorem dX10_could_32 : decode cX10_could 32 = .ok (.invokevirtual 307, 3) := by decide +kernel
theorem dX10_could_35 : decode cX10_could 35 = .ok (.iand, 1) := by decide +kernel
theorem dX10_could_36 : decode cX10_could 36 = .ok (.aload_n 0, 1) := by decide +kernel
theorem dX10_could_37 : decode cX10_could 37 = .ok (.getfield 26, 3) := by decide +kernel
theorem dX10_could_40 : decode cX10_could 40 = .ok (.iload_n 1, 1) := by decide +kernel
theorem dX10_could_41 : decode cX10_could 41 = .ok (.aload_n 0, 1) := by decide +kernel
theorem dX10_could_42 : decode cX10_could 42 = .ok (.getfield 26, 3) := by decide +kernel
theorem dX10_could_45 : decode cX10_could 45 = .ok (.getfield 152, 3) := by decide +kernel
theorem dX10_could_48 : decode cX10_could 48 = .ok (.iload_n 1, 1) := by decide +kernel
theorem dX10_could_49 : decode cX10_could 49 = .ok (.aaload, 1) := by decide +kernel
theorem dX10_could_50 : decode cX10_could 50 = .ok (.getfield 156, 3) := by decide +kernel
theorem dX10_could_53 : decode cX10_could 53 = .ok (.invokevirtual 310, 3) := by decide +kernel
theorem dX10_could_56 : decode cX10_could 56 = .ok (.iand, 1) := by decide +kernel
theorem dX10_could_57 : decode cX10_could 57 = .ok (.ireturn, 1) := by decide +kernel
theorem dX10_lacks_0 : decode cX10_lacks 0 = .ok (.aload_n 0, 1) := by decide +kernel
theorem dX10_lacks_1 : decode cX10_lacks 1 = .ok (.getfield 26, 3) := by decide +kernel
theorem dX10_lacks_4 : decode cX10_lacks 4 = .ok (.iload_n 1, 1) := by decide +kernel
theorem dX10_lacks_5 : decode cX10_lacks 5 = .ok (.invokevirtual 149, 3) := by decide +kernel
theorem dX10_lacks_8 : decode cX10_lacks 8 = .ok (.ifCond .eq 14, 3) := by decide +kernel
theorem dX10_lacks_11 : decode cX10_lacks 11 = .ok (.aload_n 0, 1) := by decide +kernel
theorem dX10_lacks_12 : decode cX10_lacks 12 = .ok (.getfield 26, 3) := by decide +kernel
theorem dX10_lacks_15 : decode cX10_lacks 15 = .ok (.iload_n 1, 1) := by decide +kernel
theorem dX10_lacks_16 : decode cX10_lacks 16 = .ok (.invokevirtual 313, 3) := by decide +kernel
theorem dX10_lacks_19 : decode cX10_lacks 19 = .ok (.goto 4, 3) := by decide +kernel
theorem dX10_lacks_22 : decode cX10_lacks 22 = .ok (.iconst (-1), 1) := by decide +kernel
theorem dX10_lacks_23 : decode cX10_lacks 23 = .ok (.ireturn, 1) := by decide +kernel
theorem dX10_told_0 : decode cX10_told 0 = .ok (.iload_n 1, 1) := by decide +kernel
theorem dX10_told_1 : decode cX10_told 1 = .ok (.iconst 0, 1) := by decide +kernel
theorem dX10_told_2 : decode cX10_told 2 = .ok (.iconst 2, 1) := by decide +kernel
theorem dX10_told_3 : decode cX10_told 3 = .ok (.invokestatic 137, 3) := by decide +kernel
theorem dX10_told_6 : decode cX10_told 6 = .ok (.ifCond .eq 14, 3) := by decide +kernel
theorem dX10_told_9 : decode cX10_told 9 = .ok (.aload_n 0, 1) := by decide +kernel
theorem dX10_told_10 : decode cX10_told 10 = .ok (.getfield 26, 3) := by decide +kernel
theorem dX10_told_13 : decode cX10_told 13 = .ok (.iload_n 1, 1) := by decide +kernel
theorem dX10_told_14 : decode cX10_told 14 = .ok (.invokevirtual 316, 3) := by decide +kernel
theorem dX10_told_17 : decode cX10_told 17 = .ok (.goto 9, 3) := by decide +kernel
theorem dX10_told_20 : decode cX10_told 20 = .ok (.aload_n 0, 1) := by decide +kernel
theorem dX10_told_21 : decode cX10_told 21 = .ok (.bipush (-5), 2) := by decide +kernel
theorem dX10_told_23 : decode cX10_told 23 = .ok (.invokevirtual 60, 3) := by decide +kernel
theorem dX10_told_26 : decode cX10_told 26 = .ok (.ireturn, 1) := by decide +kernel
theorem dX10_rid_0 : decode cX10_rid 0 = .ok (.iload_n 1, 1) := by decide +kernel
theorem dX10_rid_1 : decode cX10_rid 1 = .ok (.aload_n 0, 1) := by decide +kernel
theorem dX10_rid_2 : decode cX10_rid 2 = .ok (.getfield 26, 3) := by decide +kernel
theorem dX10_rid_5 : decode cX10_rid 5 = .ok (.invokevirtual 319, 3) := by decide +kernel
theorem dX10_rid_8 : decode cX10_rid 8 = .ok (.iconst (-1), 1) := by decide +kernel
theorem dX10_rid_9 : decode cX10_rid 9 = .ok (.ixor, 1) := by decide +kernel
theorem dX10_rid_10 : decode cX10_rid 10 = .ok (.iand, 1) := by decide +kernel
theorem dX10_rid_11 : decode cX10_rid 11 = .ok (.ifCond .eq 9, 3) := by decide +kernel
theorem dX10_rid_14 : decode cX10_rid 14 = .ok (.aload_n 0, 1) := by decide +kernel
theorem dX10_rid_15 : decode cX10_rid 15 = .ok (.iconst (-1), 1) := by decide +kernel
theorem dX10_rid_16 : decode cX10_rid 16 = .ok (.invokevirtual 60, 3) := by decide +kernel
theorem dX10_rid_19 : decode cX10_rid 19 = .ok (.ireturn, 1) := by decide +kernel
theorem dX10_rid_20 : decode cX10_rid 20 = .ok (.iload_n 2, 1) := by decide +kernel
theorem dX10_rid_21 : decode cX10_rid 21 = .ok (.iload_n 3, 1) := by decide +kernel
theorem dX10_rid_22 : decode cX10_rid 22 = .ok (.invokestatic 322, 3) := by decide +kernel
theorem dX10_rid_25 : decode cX10_rid 25 = .ok (.ifCond .eq 16, 3) := by decide +kernel
theorem dX10_rid_28 : decode cX10_rid 28 = .ok (.aload_n 0, 1) := by decide +kernel
theorem dX10_rid_29 : decode cX10_rid 29 = .ok (.getfield 18, 3) := by decide +kernel
theorem dX10_rid_32 : decode cX10_rid 32 = .ok (.iload_n 1, 1) := by decide +kernel
theorem dX10_rid_33 : decode cX10_rid 33 = .ok (.iload_n 2, 1) := by decide +kernel
theorem dX10_rid_34 : decode cX10_rid 34 = .ok (.iload_n 3, 1) := by decide +kernel
theorem dX10_rid_35 : decode cX10_rid 35 = .ok (.invokevirtual 325, 3) := by decide +kernel
theorem dX10_rid_38 : decode cX10_rid 38 = .ok (.goto 9, 3) := by decide +kernel
theorem dX10_rid_41 : decode cX10_rid 41 = .ok (.aload_n 0, 1) := by decide +kernel
theorem dX10_rid_42 : decode cX10_rid 42 = .ok (.bipush (-6), 2) := by decide +kernel
theorem dX10_rid_44 : decode cX10_rid 44 = .ok (.invokevirtual 60, 3) := by decide +kernel
theorem dX10_rid_47 : decode cX10_rid 47 = .ok (.ireturn, 1) := by decide +kernel
theorem dX10_best_0 : decode cX10_best 0 = .ok (.iload_n 1, 1) := by decide +kernel
theorem dX10_best_1 : decode cX10_best 1 = .ok (.iconst 0, 1) := by decide +kernel
theorem dX10_best_2 : decode cX10_best 2 = .ok (.sipush 999, 3) := by decide +kernel
theorem dX10_best_5 : decode cX10_best 5 = .ok (.invokestatic 137, 3) := by decide +kernel
theorem dX10_best_8 : decode cX10_best 8 = .ok (.ifCond .eq 11, 3) := by decide +kernel
theorem dX10_best_11 : decode cX10_best 11 = .ok (.iload_n 2, 1) := by decide +kernel
theorem dX10_best_12 : decode cX10_best 12 = .ok (.iload_n 3, 1) := by decide +kernel
theorem dX10_best_13 : decode cX10_best 13 = .ok (.invokestatic 322, 3) := by decide +kernel
theorem dX10_best_16 : decode cX10_best 16 = .ok (.ifCond .ne 10, 3) := by decide +kernel
theorem dX10_best_19 : decode cX10_best 19 = .ok (.aload_n 0, 1) := by decide +kernel
theorem dX10_best_20 : decode cX10_best 20 = .ok (.bipush (-6), 2) := by decide +kernel
theorem dX10_best_22 : decode cX10_best 22 = .ok (.invokevirtual 60, 3) := by decide +kernel
theorem dX10_best_25 : decode cX10_best 25 = .ok (.ireturn, 1) := by decide +kernel
theorem dX10_best_26 : decode cX10_best 26 = .ok (.aload_n 0, 1) := by decide +kernel
theorem dX10_best_27 : decode cX10_best 27 = .ok (.getfield 18, 3) := by decide +kernel
theorem dX10_best_30 : decode cX10_best 30 = .ok (.iload_n 1, 1) := by decide +kernel
theorem dX10_best_31 : decode cX10_best 31 = .ok (.iload_n 2, 1) := by decide +kernel
theorem dX10_best_32 : decode cX10_best 32 = .ok (.iload_n 3, 1) := by decide +kernel
theorem dX10_best_33 : decode cX10_best 33 = .ok (.invokevirtual 329, 3) := by decide +kernel
theorem dX10_best_36 : decode cX10_best 36 = .ok (.ireturn, 1) := by decide +kernel
theorem dX10_lots_0 : decode cX10_lots 0 = .ok (.iload_n 1, 1) := by decide +kernel
theorem dX10_lots_1 : decode cX10_lots 1 = .ok (.iconst 0, 1) := by decide +kernel
theorem dX10_lots_2 : decode cX10_lots 2 = .ok (.bipush 30, 2) := by decide +kernel
theorem dX10_lots_4 : decode cX10_lots 4 = .ok (.invokestatic 137, 3) := by decide +kernel
theorem dX10_lots_7 : decode cX10_lots 7 = .ok (.ifCond .eq 7, 3) := by decide +kernel
theorem dX10_lots_10 : decode cX10_lots 10 = .ok (.iload_n 2, 1) := by decide +kernel
theorem dX10_lots_11 : decode cX10_lots 11 = .ok (.ifCond .ge 10, 3) := by decide +kernel
theorem dX10_lots_14 : decode cX10_lots 14 = .ok (.aload_n 0, 1) := by decide +kernel
theorem dX10_lots_15 : decode cX10_lots 15 = .ok (.bipush (-6), 2) := by decide +kernel
theorem dX10_lots_17 : decode cX10_lots 17 = .ok (.invokevirtual 60, 3) := by decide +kernel
theorem dX10_lots_20 : decode cX10_lots 20 = .ok (.ireturn, 1) := by decide +kernel
theorem dX10_lots_21 : decode cX10_lots 21 = .ok (.iconst 0, 1) := by decide +kernel
theorem dX10_lots_22 : decode cX10_lots 22 = .ok (.istore_n 3, 1) := by decide +kernel
theorem dX10_lots_23 : decode cX10_lots 23 = .ok (.iconst 1, 1) := by decide +kernel
theorem dX10_lots_24 : decode cX10_lots 24 = .ok (.istore 4, 2) := by decide +kernel
theorem dX10_lots_26 : decode cX10_lots 26 = .ok (.iconst 0, 1) := by decide +kernel
theorem dX10_lots_27 : decode cX10_lots 27 = .ok (.istore 5, 2) := by decide +kernel
theorem dX10_lots_29 : decode cX10_lots 29 = .ok (.iload 5, 2) := by decide +kernel
theorem dX10_lots_31 : decode cX10_lots 31 = .ok (.iload_n 1, 1) := by decide +kernel
theorem dX10_lots_32 : decode cX10_lots 32 = .ok (.if_icmp .gt 38, 3) := by decide +kernel
theorem dX10_lots_35 : decode cX10_lots 35 = .ok (.iload 5, 2) := by decide +kernel
theorem dX10_lots_37 : decode cX10_lots 37 = .ok (.iload_n 2, 1) := by decide +kernel
theorem dX10_lots_38 : decode cX10_lots 38 = .ok (.if_icmp .lt 8, 3) := by decide +kernel
theorem dX10_lots_41 : decode cX10_lots 41 = .ok (.iload_n 3, 1) := by decide +kernel
theorem dX10_lots_42 : decode cX10_lots 42 = .ok (.iload 4, 2) := by decide +kernel
theorem dX10_lots_44 : decode cX10_lots 44 = .ok (.iadd, 1) := by decide +kernel
theorem dX10_lots_45 : decode cX10_lots 45 = .ok (.istore_n 3, 1) := by decide +kernel
theorem dX10_lots_46 : decode cX10_lots 46 = .ok (.iload 4, 2) := by decide +kernel
theorem dX10_lots_48 : decode cX10_lots 48 = .ok (.i2l, 1) := by decide +kernel
theorem dX10_lots_49 : decode cX10_lots 49 = .ok (.iload_n 1, 1) := by decide +kernel
theorem dX10_lots_50 : decode cX10_lots 50 = .ok (.iload 5, 2) := by decide +kernel
theorem dX10_lots_52 : decode cX10_lots 52 = .ok (.isub, 1) := by decide +kernel
theorem dX10_lots_53 : decode cX10_lots 53 = .ok (.i2l, 1) := by decide +kernel
theorem dX10_lots_54 : decode cX10_lots 54 = .ok (.lmul, 1) := by decide +kernel
theorem dX10_lots_55 : decode cX10_lots 55 = .ok (.iload 5, 2) := by decide +kernel
theorem dX10_lots_57 : decode cX10_lots 57 = .ok (.iconst 1, 1) := by decide +kernel
theorem dX10_lots_58 : decode cX10_lots 58 = .ok (.iadd, 1) := by decide +kernel
theorem dX10_lots_59 : decode cX10_lots 59 = .ok (.i2l, 1) := by decide +kernel
theorem dX10_lots_60 : decode cX10_lots 60 = .ok (.ldiv, 1) := by decide +kernel
theorem dX10_lots_61 : decode cX10_lots 61 = .ok (.l2i, 1) := by decide +kernel
theorem dX10_lots_62 : decode cX10_lots 62 = .ok (.istore 4, 2) := by decide +kernel
theorem dX10_lots_64 : decode cX10_lots 64 = .ok (.iinc 5 1, 3) := by decide +kernel
theorem dX10_lots_67 : decode cX10_lots 67 = .ok (.goto (-38), 3) := by decide +kernel
theorem dX10_lots_70 : decode cX10_lots 70 = .ok (.iload_n 3, 1) := by decide +kernel
theorem dX10_lots_71 : decode cX10_lots 71 = .ok (.ireturn, 1) := by decide +kernel
theorem dX10_need_0 : decode cX10_need 0 = .ok (.iload_n 1, 1) := by decide +kernel
theorem dX10_need_1 : decode cX10_need 1 = .ok (.iconst 0, 1) := by decide +kernel
theorem dX10_need_2 : decode cX10_need 2 = .ok (.ldc_w 332, 3) := by decide +kernel
theorem dX10_need_5 : decode cX10_need 5 = .ok (.invokestatic 137, 3) := by decide +kernel
theorem dX10_need_8 : decode cX10_need 8 = .ok (.ifCond .eq 12, 3) := by decide +kernel
theorem dX10_need_11 : decode cX10_need 11 = .ok (.iload_n 1, 1) := by decide +kernel
theorem dX10_need_12 : decode cX10_need 12 = .ok (.iconst 1, 1) := by decide +kernel
theorem dX10_need_13 : decode cX10_need 13 = .ok (.iadd, 1) := by decide +kernel
theorem dX10_need_14 : decode cX10_need 14 = .ok (.invokestatic 333, 3) := by decide +kernel
theorem dX10_need_17 : decode cX10_need 17 = .ok (.goto 9, 3) := by decide +kernel
theorem dX10_need_20 : decode cX10_need 20 = .ok (.aload_n 0, 1) := by decide +kernel
theorem dX10_need_21 : decode cX10_need 21 = .ok (.bipush (-6), 2) := by decide +kernel
theorem dX10_need_23 : decode cX10_need 23 = .ok (.invokevirtual 60, 3) := by decide +kernel
theorem dX10_need_26 : decode cX10_need 26 = .ok (.ireturn, 1) := by decide +kernel
theorem dX10_beats_0 : decode cX10_beats 0 = .ok (.aload_n 0, 1) := by decide +kernel
theorem dX10_beats_1 : decode cX10_beats 1 = .ok (.getfield 26, 3) := by decide +kernel
theorem dX10_beats_4 : decode cX10_beats 4 = .ok (.iload_n 1, 1) := by decide +kernel
theorem dX10_beats_5 : decode cX10_beats 5 = .ok (.invokevirtual 149, 3) := by decide +kernel
theorem dX10_beats_8 : decode cX10_beats 8 = .ok (.ifCond .eq 29, 3) := by decide +kernel
theorem dX10_beats_11 : decode cX10_beats 11 = .ok (.iload_n 2, 1) := by decide +kernel
theorem dX10_beats_12 : decode cX10_beats 12 = .ok (.invokestatic 195, 3) := by decide +kernel
theorem dX10_beats_15 : decode cX10_beats 15 = .ok (.ifCond .eq 22, 3) := by decide +kernel
theorem dX10_beats_18 : decode cX10_beats 18 = .ok (.aload_n 0, 1) := by decide +kernel
theorem dX10_beats_19 : decode cX10_beats 19 = .ok (.getfield 26, 3) := by decide +kernel
theorem dX10_beats_22 : decode cX10_beats 22 = .ok (.aload_n 0, 1) := by decide +kernel
theorem dX10_beats_23 : decode cX10_beats 23 = .ok (.getfield 26, 3) := by decide +kernel
theorem dX10_beats_26 : decode cX10_beats 26 = .ok (.iload_n 1, 1) := by decide +kernel
theorem dX10_beats_27 : decode cX10_beats 27 = .ok (.iload_n 2, 1) := by decide +kernel
theorem dX10_beats_28 : decode cX10_beats 28 = .ok (.invokevirtual 250, 3) := by decide +kernel
theorem dX10_beats_31 : decode cX10_beats 31 = .ok (.invokevirtual 336, 3) := by decide +kernel
theorem dX10_beats_34 : decode cX10_beats 34 = .ok (.goto 4, 3) := by decide +kernel
theorem dX10_beats_37 : decode cX10_beats 37 = .ok (.iconst (-1), 1) := by decide +kernel
theorem dX10_beats_38 : decode cX10_beats 38 = .ok (.ireturn, 1) := by decide +kernel
theorem dX10_halve_0 : decode cX10_halve 0 = .ok (.iload_n 1, 1) := by decide +kernel
theorem dX10_halve_1 : decode cX10_halve 1 = .ok (.iconst 1, 1) := by decide +kernel
theorem dX10_halve_2 : decode cX10_halve 2 = .ok (.sipush 1000, 3) := by decide +kernel
theorem dX10_halve_5 : decode cX10_halve 5 = .ok (.invokestatic 137, 3) := by decide +kernel
theorem dX10_halve_8 : decode cX10_halve 8 = .ok (.ifCond .eq 10, 3) := by decide +kernel
theorem dX10_halve_11 : decode cX10_halve 11 = .ok (.iload_n 1, 1) := by decide +kernel
theorem dX10_halve_12 : decode cX10_halve 12 = .ok (.invokestatic 333, 3) := by decide +kernel
theorem dX10_halve_15 : decode cX10_halve 15 = .ok (.goto 9, 3) := by decide +kernel
theorem dX10_halve_18 : decode cX10_halve 18 = .ok (.aload_n 0, 1) := by decide +kernel
theorem dX10_halve_19 : decode cX10_halve 19 = .ok (.bipush (-6), 2) := by decide +kernel
theorem dX10_halve_21 : decode cX10_halve 21 = .ok (.invokevirtual 60, 3) := by decide +kernel
theorem dX10_halve_24 : decode cX10_halve 24 = .ok (.ireturn, 1) := by decide +kernel
theorem dX10_meter_0 : decode cX10_meter 0 = .ok (.iload_n 1, 1) := by decide +kernel
theorem dX10_meter_1 : decode cX10_meter 1 = .ok (.invokestatic 131, 3) := by decide +kernel
theorem dX10_meter_4 : decode cX10_meter 4 = .ok (.ifCond .ne 9, 3) := by decide +kernel
theorem dX10_meter_7 : decode cX10_meter 7 = .ok (.aload_n 0, 1) := by decide +kernel
theorem dX10_meter_8 : decode cX10_meter 8 = .ok (.iconst (-1), 1) := by decide +kernel
theorem dX10_meter_9 : decode cX10_meter 9 = .ok (.invokevirtual 60, 3) := by decide +kernel
theorem dX10_meter_12 : decode cX10_meter 12 = .ok (.ireturn, 1) := by decide +kernel
theorem dX10_meter_13 : decode cX10_meter 13 = .ok (.iload_n 2, 1) := by decide +kernel
theorem dX10_meter_14 : decode cX10_meter 14 = .ok (.iconst 1, 1) := by decide +kernel
theorem dX10_meter_15 : decode cX10_meter 15 = .ok (.bipush 99, 2) := by decide +kernel
theorem dX10_meter_17 : decode cX10_meter 17 = .ok (.invokestatic 137, 3) := by decide +kernel
theorem dX10_meter_20 : decode cX10_meter 20 = .ok (.ifCond .eq 12, 3) := by decide +kernel
theorem dX10_meter_23 : decode cX10_meter 23 = .ok (.iload_n 3, 1) := by decide +kernel
theorem dX10_meter_24 : decode cX10_meter 24 = .ok (.iload 4, 2) := by decide +kernel
theorem dX10_meter_26 : decode cX10_meter 26 = .ok (.invokestatic 322, 3) := by decide +kernel
theorem dX10_meter_29 : decode cX10_meter 29 = .ok (.ifCond .ne 10, 3) := by decide +kernel
theorem dX10_meter_32 : decode cX10_meter 32 = .ok (.aload_n 0, 1) := by decide +kernel
theorem dX10_meter_33 : decode cX10_meter 33 = .ok (.bipush (-6), 2) := by decide +kernel
theorem dX10_meter_35 : decode cX10_meter 35 = .ok (.invokevirtual 60, 3) := by decide +kernel
theorem dX10_meter_38 : decode cX10_meter 38 = .ok (.ireturn, 1) := by decide +kernel
theorem dX10_meter_39 : decode cX10_meter 39 = .ok (.aload_n 0, 1) := by decide +kernel
theorem dX10_meter_40 : decode cX10_meter 40 = .ok (.getfield 18, 3) := by decide +kernel
theorem dX10_meter_43 : decode cX10_meter 43 = .ok (.iload_n 1, 1) := by decide +kernel
theorem dX10_meter_44 : decode cX10_meter 44 = .ok (.iload_n 2, 1) := by decide +kernel
theorem dX10_meter_45 : decode cX10_meter 45 = .ok (.aload_n 0, 1) := by decide +kernel
theorem dX10_meter_46 : decode cX10_meter 46 = .ok (.getfield 26, 3) := by decide +kernel
theorem dX10_meter_49 : decode cX10_meter 49 = .ok (.iload_n 3, 1) := by decide +kernel
theorem dX10_meter_50 : decode cX10_meter 50 = .ok (.iload 4, 2) := by decide +kernel
theorem dX10_meter_52 : decode cX10_meter 52 = .ok (.invokevirtual 339, 3) := by decide +kernel
theorem dX10_meter_55 : decode cX10_meter 55 = .ok (.invokevirtual 342, 3) := by decide +kernel
theorem dX10_meter_58 : decode cX10_meter 58 = .ok (.ireturn, 1) := by decide +kernel
theorem dX10_place_0 : decode cX10_place 0 = .ok (.iload_n 1, 1) := by decide +kernel
theorem dX10_place_1 : decode cX10_place 1 = .ok (.iconst 1, 1) := by decide +kernel
theorem dX10_place_2 : decode cX10_place 2 = .ok (.bipush 99, 2) := by decide +kernel
theorem dX10_place_4 : decode cX10_place 4 = .ok (.invokestatic 137, 3) := by decide +kernel
theorem dX10_place_7 : decode cX10_place 7 = .ok (.ifCond .eq 11, 3) := by decide +kernel
theorem dX10_place_10 : decode cX10_place 10 = .ok (.iload_n 2, 1) := by decide +kernel
theorem dX10_place_11 : decode cX10_place 11 = .ok (.iload_n 3, 1) := by decide +kernel
theorem dX10_place_12 : decode cX10_place 12 = .ok (.invokestatic 322, 3) := by decide +kernel
theorem dX10_place_15 : decode cX10_place 15 = .ok (.ifCond .ne 10, 3) := by decide +kernel
theorem dX10_place_18 : decode cX10_place 18 = .ok (.aload_n 0, 1) := by decide +kernel
theorem dX10_place_19 : decode cX10_place 19 = .ok (.bipush (-6), 2) := by decide +kernel
theorem dX10_place_21 : decode cX10_place 21 = .ok (.invokevirtual 60, 3) := by decide +kernel
theorem dX10_place_24 : decode cX10_place 24 = .ok (.ireturn, 1) := by decide +kernel
theorem dX10_place_25 : decode cX10_place 25 = .ok (.aload_n 0, 1) := by decide +kernel
theorem dX10_place_26 : decode cX10_place 26 = .ok (.getfield 18, 3) := by decide +kernel
theorem dX10_place_29 : decode cX10_place 29 = .ok (.iload_n 1, 1) := by decide +kernel
theorem dX10_place_30 : decode cX10_place 30 = .ok (.iload_n 2, 1) := by decide +kernel
theorem dX10_place_31 : decode cX10_place 31 = .ok (.iload_n 3, 1) := by decide +kernel
theorem dX10_place_32 : decode cX10_place 32 = .ok (.invokevirtual 345, 3) := by decide +kernel
theorem dX10_place_35 : decode cX10_place 35 = .ok (.ireturn, 1) := by decide +kernel
theorem dX10_bed_0 : decode cX10_bed 0 = .ok (.aload_n 0, 1) := by decide +kernel
theorem dX10_bed_1 : decode cX10_bed 1 = .ok (.getfield 26, 3) := by decide +kernel
theorem dX10_bed_4 : decode cX10_bed 4 = .ok (.iload_n 1, 1) := by decide +kernel
theorem dX10_bed_5 : decode cX10_bed 5 = .ok (.invokevirtual 149, 3) := by decide +kernel
theorem dX10_bed_8 : decode cX10_bed 8 = .ok (.ifCond .ne 9, 3) := by decide +kernel
theorem dX10_bed_11 : decode cX10_bed 11 = .ok (.aload_n 0, 1) := by decide +kernel
theorem dX10_bed_12 : decode cX10_bed 12 = .ok (.iconst (-1), 1) := by decide +kernel
theorem dX10_bed_13 : decode cX10_bed 13 = .ok (.invokevirtual 60, 3) := by decide +kernel
theorem dX10_bed_16 : decode cX10_bed 16 = .ok (.ireturn, 1) := by decide +kernel
theorem dX10_bed_17 : decode cX10_bed 17 = .ok (.iload_n 2, 1) := by decide +kernel
theorem dX10_bed_18 : decode cX10_bed 18 = .ok (.iload_n 3, 1) := by decide +kernel
theorem dX10_bed_19 : decode cX10_bed 19 = .ok (.invokestatic 322, 3) := by decide +kernel
theorem dX10_bed_22 : decode cX10_bed 22 = .ok (.ifCond .eq 16, 3) := by decide +kernel
theorem dX10_bed_25 : decode cX10_bed 25 = .ok (.aload_n 0, 1) := by decide +kernel
theorem dX10_bed_26 : decode cX10_bed 26 = .ok (.getfield 18, 3) := by decide +kernel
theorem dX10_bed_29 : decode cX10_bed 29 = .ok (.iload_n 1, 1) := by decide +kernel
theorem dX10_bed_30 : decode cX10_bed 30 = .ok (.iload_n 2, 1) := by decide +kernel
theorem dX10_bed_31 : decode cX10_bed 31 = .ok (.iload_n 3, 1) := by decide +kernel
theorem dX10_bed_32 : decode cX10_bed 32 = .ok (.invokevirtual 348, 3) := by decide +kernel
theorem dX10_bed_35 : decode cX10_bed 35 = .ok (.goto 9, 3) := by decide +kernel
theorem dX10_bed_38 : decode cX10_bed 38 = .ok (.aload_n 0, 1) := by decide +kernel
theorem dX10_bed_39 : decode cX10_bed 39 = .ok (.bipush (-6), 2) := by decide +kernel
theorem dX10_bed_41 : decode cX10_bed 41 = .ok (.invokevirtual 60, 3) := by decide +kernel
theorem dX10_bed_44 : decode cX10_bed 44 = .ok (.ireturn, 1) := by decide +kernel
theorem dX10_act_0 : decode cX10_act 0 = .ok (.aload_n 0, 1) := by decide +kernel
theorem dX10_act_1 : decode cX10_act 1 = .ok (.getfield 43, 3) := by decide +kernel
theorem dX10_act_4 : decode cX10_act 4 = .ok (.invokevirtual 351, 3) := by decide +kernel
theorem dX10_act_7 : decode cX10_act 7 = .ok (.aload_n 0, 1) := by decide +kernel
theorem dX10_act_8 : decode cX10_act 8 = .ok (.getfield 26, 3) := by decide +kernel
theorem dX10_act_11 : decode cX10_act 11 = .ok (.iload_n 1, 1) := by decide +kernel
theorem dX10_act_12 : decode cX10_act 12 = .ok (.invokevirtual 101, 3) := by decide +kernel
theorem dX10_act_15 : decode cX10_act 15 = .ok (.ifCond .ne 5, 3) := by decide +kernel
theorem dX10_act_18 : decode cX10_act 18 = .ok (.iconst 0, 1) := by decide +kernel
theorem dX10_act_19 : decode cX10_act 19 = .ok (.ireturn, 1) := by decide +kernel
theorem dX10_act_20 : decode cX10_act 20 = .ok (.aload_n 0, 1) := by decide +kernel
theorem dX10_act_21 : decode cX10_act 21 = .ok (.getfield 43, 3) := by decide +kernel
theorem dX10_act_24 : decode cX10_act 24 = .ok (.iload_n 1, 1) := by decide +kernel
theorem dX10_act_25 : decode cX10_act 25 = .ok (.aload_n 0, 1) := by decide +kernel
theorem dX10_act_26 : decode cX10_act 26 = .ok (.getfield 26, 3) := by decide +kernel
theorem dX10_act_29 : decode cX10_act 29 = .ok (.getfield 118, 3) := by decide +kernel
theorem dX10_act_32 : decode cX10_act 32 = .ok (.iload_n 1, 1) := by decide +kernel
theorem dX10_act_33 : decode cX10_act 33 = .ok (.aaload, 1) := by decide +kernel
theorem dX10_act_34 : decode cX10_act 34 = .ok (.iload_n 2, 1) := by decide +kernel
theorem dX10_act_35 : decode cX10_act 35 = .ok (.iload_n 3, 1) := by decide +kernel
theorem dX10_act_36 : decode cX10_act 36 = .ok (.invokevirtual 354, 3) := by decide +kernel
theorem dX10_act_39 : decode cX10_act 39 = .ok (.ireturn, 1) := by decide +kernel
theorem dX10_trace_0 : decode cX10_trace 0 = .ok (.aload_n 0, 1) := by decide +kernel
theorem dX10_trace_1 : decode cX10_trace 1 = .ok (.getfield 43, 3) := by decide +kernel
theorem dX10_trace_4 : decode cX10_trace 4 = .ok (.iload_n 1, 1) := by decide +kernel
theorem dX10_trace_5 : decode cX10_trace 5 = .ok (.invokevirtual 358, 3) := by decide +kernel
theorem dX10_trace_8 : decode cX10_trace 8 = .ok (.ireturn, 1) := by decide +kernel
theorem dX10_image_0 : decode cX10_image 0 = .ok (.aload_n 0, 1) := by decide +kernel
theorem dX10_image_1 : decode cX10_image 1 = .ok (.getfield 30, 3) := by decide +kernel
theorem dX10_image_4 : decode cX10_image 4 = .ok (.aload_n 0, 1) := by decide +kernel
theorem dX10_image_5 : decode cX10_image 5 = .ok (.getfield 26, 3) := by decide +kernel
theorem dX10_image_8 : decode cX10_image 8 = .ok (.invokevirtual 361, 3) := by decide +kernel
theorem dX10_image_11 : decode cX10_image 11 = .ok (.aload_n 0, 1) := by decide +kernel
theorem dX10_image_12 : decode cX10_image 12 = .ok (.iconst 1, 1) := by decide +kernel
theorem dX10_image_13 : decode cX10_image 13 = .ok (.putfield 51, 3) := by decide +kernel
theorem dX10_image_16 : decode cX10_image 16 = .ok (.aload_n 0, 1) := by decide +kernel
theorem dX10_image_17 : decode cX10_image 17 = .ok (.getfield 26, 3) := by decide +kernel
theorem dX10_image_20 : decode cX10_image 20 = .ok (.getfield 192, 3) := by decide +kernel
theorem dX10_image_23 : decode cX10_image 23 = .ok (.ireturn, 1) := by decide +kernel
theorem dX10_restore_0 : decode cX10_restore 0 = .ok (.aload_n 0, 1) := by decide +kernel
theorem dX10_restore_1 : decode cX10_restore 1 = .ok (.getfield 51, 3) := by decide +kernel
theorem dX10_restore_4 : decode cX10_restore 4 = .ok (.ifCond .ne 10, 3) := by decide +kernel
theorem dX10_restore_7 : decode cX10_restore 7 = .ok (.aload_n 0, 1) := by decide +kernel
theorem dX10_restore_8 : decode cX10_restore 8 = .ok (.bipush (-6), 2) := by decide +kernel
theorem dX10_restore_10 : decode cX10_restore 10 = .ok (.invokevirtual 60, 3) := by decide +kernel
theorem dX10_restore_13 : decode cX10_restore 13 = .ok (.ireturn, 1) := by decide +kernel
theorem dX10_restore_14 : decode cX10_restore 14 = .ok (.aload_n 0, 1) := by decide +kernel
theorem dX10_restore_15 : decode cX10_restore 15 = .ok (.getfield 26, 3) := by decide +kernel
theorem dX10_restore_18 : decode cX10_restore 18 = .ok (.aload_n 0, 1) := by decide +kernel
theorem dX10_restore_19 : decode cX10_restore 19 = .ok (.getfield 30, 3) := by decide +kernel
theorem dX10_restore_22 : decode cX10_restore 22 = .ok (.invokevirtual 361, 3) := by decide +kernel
theorem dX10_restore_25 : decode cX10_restore 25 = .ok (.iconst 0, 1) := by decide +kernel
theorem dX10_restore_26 : decode cX10_restore 26 = .ok (.istore_n 1, 1) := by decide +kernel
theorem dX10_restore_27 : decode cX10_restore 27 = .ok (.iload_n 1, 1) := by decide +kernel
theorem dX10_restore_28 : decode cX10_restore 28 = .ok (.bipush 8, 2) := by decide +kernel
theorem dX10_restore_30 : decode cX10_restore 30 = .ok (.if_icmp .ge 49, 3) := by decide +kernel
theorem dX10_restore_33 : decode cX10_restore 33 = .ok (.aload_n 0, 1) := by decide +kernel
theorem dX10_restore_34 : decode cX10_restore 34 = .ok (.getfield 11, 3) := by decide +kernel
theorem dX10_restore_37 : decode cX10_restore 37 = .ok (.iload_n 1, 1) := by decide +kernel
theorem dX10_restore_38 : decode cX10_restore 38 = .ok (.aaload, 1) := by decide +kernel
theorem dX10_restore_39 : decode cX10_restore 39 = .ok (.invokevirtual 78, 3) := by decide +kernel
theorem dX10_restore_42 : decode cX10_restore 42 = .ok (.ifCond .eq 31, 3) := by decide +kernel
theorem dX10_restore_45 : decode cX10_restore 45 = .ok (.aload_n 0, 1) := by decide +kernel
theorem dX10_restore_46 : decode cX10_restore 46 = .ok (.getfield 26, 3) := by decide +kernel
theorem dX10_restore_49 : decode cX10_restore 49 = .ok (.aload_n 0, 1) := by decide +kernel
theorem dX10_restore_50 : decode cX10_restore 50 = .ok (.getfield 11, 3) := by decide +kernel
theorem dX10_restore_53 : decode cX10_restore 53 = .ok (.iload_n 1, 1) := by decide +kernel
theorem dX10_restore_54 : decode cX10_restore 54 = .ok (.aaload, 1) := by decide +kernel
theorem dX10_restore_55 : decode cX10_restore 55 = .ok (.invokevirtual 111, 3) := by decide +kernel
theorem dX10_restore_58 : decode cX10_restore 58 = .ok (.invokevirtual 101, 3) := by decide +kernel
theorem dX10_restore_61 : decode cX10_restore 61 = .ok (.ifCond .ne 12, 3) := by decide +kernel
theorem dX10_restore_64 : decode cX10_restore 64 = .ok (.aload_n 0, 1) := by decide +kernel
theorem dX10_restore_65 : decode cX10_restore 65 = .ok (.getfield 11, 3) := by decide +kernel
theorem dX10_restore_68 : decode cX10_restore 68 = .ok (.iload_n 1, 1) := by decide +kernel
theorem dX10_restore_69 : decode cX10_restore 69 = .ok (.aaload, 1) := by decide +kernel
theorem dX10_restore_70 : decode cX10_restore 70 = .ok (.invokevirtual 104, 3) := by decide +kernel
theorem dX10_restore_73 : decode cX10_restore 73 = .ok (.iinc 1 1, 3) := by decide +kernel
theorem dX10_restore_76 : decode cX10_restore 76 = .ok (.goto (-49), 3) := by decide +kernel
theorem dX10_restore_79 : decode cX10_restore 79 = .ok (.aload_n 0, 1) := by decide +kernel
theorem dX10_restore_80 : decode cX10_restore 80 = .ok (.getfield 26, 3) := by decide +kernel
theorem dX10_restore_83 : decode cX10_restore 83 = .ok (.getfield 192, 3) := by decide +kernel
theorem dX10_restore_86 : decode cX10_restore 86 = .ok (.ireturn, 1) := by decide +kernel
theorem dX10_status_0 : decode cX10_status 0 = .ok (.iload_n 1, 1) := by decide +kernel
theorem dX10_status_1 : decode cX10_status 1 = .ok (.tableswitch 120 0 7 #[47, 55, 63, 74, 85, 96, 104, 112], 47) := by decide +kernel
theorem dX10_status_48 : decode cX10_status 48 = .ok (.aload_n 0, 1) := by decide +kernel
theorem dX10_status_49 : decode cX10_status 49 = .ok (.getfield 26, 3) := by decide +kernel
theorem dX10_status_52 : decode cX10_status 52 = .ok (.getfield 161, 3) := by decide +kernel
theorem dX10_status_55 : decode cX10_status 55 = .ok (.ireturn, 1) := by decide +kernel
theorem dX10_status_56 : decode cX10_status 56 = .ok (.aload_n 0, 1) := by decide +kernel
theorem dX10_status_57 : decode cX10_status 57 = .ok (.getfield 26, 3) := by decide +kernel
theorem dX10_status_60 : decode cX10_status 60 = .ok (.getfield 141, 3) := by decide +kernel
theorem dX10_status_63 : decode cX10_status 63 = .ok (.ireturn, 1) := by decide +kernel
theorem dX10_status_64 : decode cX10_status 64 = .ok (.aload_n 0, 1) := by decide +kernel
theorem dX10_status_65 : decode cX10_status 65 = .ok (.getfield 26, 3) := by decide +kernel
theorem dX10_status_68 : decode cX10_status 68 = .ok (.getfield 256, 3) := by decide +kernel
theorem dX10_status_71 : decode cX10_status 71 = .ok (.getfield 260, 3) := by decide +kernel
theorem dX10_status_74 : decode cX10_status 74 = .ok (.ireturn, 1) := by decide +kernel
theorem dX10_status_75 : decode cX10_status 75 = .ok (.aload_n 0, 1) := by decide +kernel
theorem dX10_status_76 : decode cX10_status 76 = .ok (.getfield 26, 3) := by decide +kernel
theorem dX10_status_79 : decode cX10_status 79 = .ok (.getfield 256, 3) := by decide +kernel
theorem dX10_status_82 : decode cX10_status 82 = .ok (.getfield 275, 3) := by decide +kernel
theorem dX10_status_85 : decode cX10_status 85 = .ok (.ireturn, 1) := by decide +kernel
theorem dX10_status_86 : decode cX10_status 86 = .ok (.aload_n 0, 1) := by decide +kernel
theorem dX10_status_87 : decode cX10_status 87 = .ok (.getfield 26, 3) := by decide +kernel
theorem dX10_status_90 : decode cX10_status 90 = .ok (.getfield 281, 3) := by decide +kernel
theorem dX10_status_93 : decode cX10_status 93 = .ok (.getfield 285, 3) := by decide +kernel
theorem dX10_status_96 : decode cX10_status 96 = .ok (.ireturn, 1) := by decide +kernel
theorem dX10_status_97 : decode cX10_status 97 = .ok (.aload_n 0, 1) := by decide +kernel
theorem dX10_status_98 : decode cX10_status 98 = .ok (.getfield 26, 3) := by decide +kernel
theorem dX10_status_101 : decode cX10_status 101 = .ok (.getfield 221, 3) := by decide +kernel
theorem dX10_status_104 : decode cX10_status 104 = .ok (.ireturn, 1) := by decide +kernel
theorem dX10_status_105 : decode cX10_status 105 = .ok (.aload_n 0, 1) := by decide +kernel
theorem dX10_status_106 : decode cX10_status 106 = .ok (.getfield 26, 3) := by decide +kernel
theorem dX10_status_109 : decode cX10_status 109 = .ok (.getfield 192, 3) := by decide +kernel
theorem dX10_status_112 : decode cX10_status 112 = .ok (.ireturn, 1) := by decide +kernel
theorem dX10_status_113 : decode cX10_status 113 = .ok (.aload_n 0, 1) := by decide +kernel
theorem dX10_status_114 : decode cX10_status 114 = .ok (.getfield 43, 3) := by decide +kernel
theorem dX10_status_117 : decode cX10_status 117 = .ok (.getfield 365, 3) := by decide +kernel
theorem dX10_status_120 : decode cX10_status 120 = .ok (.ireturn, 1) := by decide +kernel
theorem dX10_status_121 : decode cX10_status 121 = .ok (.iload_n 1, 1) := by decide +kernel
theorem dX10_status_122 : decode cX10_status 122 = .ok (.bipush 11, 2) := by decide +kernel
theorem dX10_status_124 : decode cX10_status 124 = .ok (.bipush 17, 2) := by decide +kernel
theorem dX10_status_126 : decode cX10_status 126 = .ok (.invokestatic 137, 3) := by decide +kernel
theorem dX10_status_129 : decode cX10_status 129 = .ok (.ifCond .eq 15, 3) := by decide +kernel
theorem dX10_status_132 : decode cX10_status 132 = .ok (.aload_n 0, 1) := by decide +kernel
theorem dX10_status_133 : decode cX10_status 133 = .ok (.getfield 47, 3) := by decide +kernel
theorem dX10_status_136 : decode cX10_status 136 = .ok (.iload_n 1, 1) := by decide +kernel
theorem dX10_status_137 : decode cX10_status 137 = .ok (.bipush 10, 2) := by decide +kernel
theorem dX10_status_139 : decode cX10_status 139 = .ok (.isub, 1) := by decide +kernel
theorem dX10_status_140 : decode cX10_status 140 = .ok (.iaload, 1) := by decide +kernel
theorem dX10_status_141 : decode cX10_status 141 = .ok (.goto 4, 3) := by decide +kernel
theorem dX10_status_144 : decode cX10_status 144 = .ok (.iconst (-1), 1) := by decide +kernel
theorem dX10_status_145 : decode cX10_status 145 = .ok (.ireturn, 1) := by decide +kernel
theorem dX10_refuse_0 : decode cX10_refuse 0 = .ok (.iload_n 1, 1) := by decide +kernel
theorem dX10_refuse_1 : decode cX10_refuse 1 = .ok (.bipush (-7), 2) := by decide +kernel
theorem dX10_refuse_3 : decode cX10_refuse 3 = .ok (.iconst (-1), 1) := by decide +kernel
theorem dX10_refuse_4 : decode cX10_refuse 4 = .ok (.invokestatic 137, 3) := by decide +kernel
theorem dX10_refuse_7 : decode cX10_refuse 7 = .ok (.ifCond .eq 14, 3) := by decide +kernel
theorem dX10_refuse_10 : decode cX10_refuse 10 = .ok (.aload_n 0, 1) := by decide +kernel
theorem dX10_refuse_11 : decode cX10_refuse 11 = .ok (.getfield 47, 3) := by decide +kernel
theorem dX10_refuse_14 : decode cX10_refuse 14 = .ok (.iload_n 1, 1) := by decide +kernel
theorem dX10_refuse_15 : decode cX10_refuse 15 = .ok (.ineg, 1) := by decide +kernel
theorem dX10_refuse_16 : decode cX10_refuse 16 = .ok (.dup2, 1) := by decide +kernel
theorem dX10_refuse_17 : decode cX10_refuse 17 = .ok (.iaload, 1) := by decide +kernel
theorem dX10_refuse_18 : decode cX10_refuse 18 = .ok (.iconst 1, 1) := by decide +kernel
theorem dX10_refuse_19 : decode cX10_refuse 19 = .ok (.iadd, 1) := by decide +kernel
theorem dX10_refuse_20 : decode cX10_refuse 20 = .ok (.iastore, 1) := by decide +kernel
theorem dX10_refuse_21 : decode cX10_refuse 21 = .ok (.iload_n 1, 1) := by decide +kernel
theorem dX10_refuse_22 : decode cX10_refuse 22 = .ok (.ireturn, 1) := by decide +kernel
theorem dX10_refusalOfRow_0 : decode cX10_refusalOfRow 0 = .ok (.iload_n 1, 1) := by decide +kernel
theorem dX10_refusalOfRow_1 : decode cX10_refusalOfRow 1 = .ok (.invokestatic 56, 3) := by decide +kernel
theorem dX10_refusalOfRow_4 : decode cX10_refusalOfRow 4 = .ok (.ifCond .ne 5, 3) := by decide +kernel
theorem dX10_refusalOfRow_7 : decode cX10_refusalOfRow 7 = .ok (.iconst (-1), 1) := by decide +kernel
theorem dX10_refusalOfRow_8 : decode cX10_refusalOfRow 8 = .ok (.ireturn, 1) := by decide +kernel
theorem dX10_refusalOfRow_9 : decode cX10_refusalOfRow 9 = .ok (.aload_n 0, 1) := by decide +kernel
theorem dX10_refusalOfRow_10 : decode cX10_refusalOfRow 10 = .ok (.getfield 11, 3) := by decide +kernel
theorem dX10_refusalOfRow_13 : decode cX10_refusalOfRow 13 = .ok (.iload_n 1, 1) := by decide +kernel
theorem dX10_refusalOfRow_14 : decode cX10_refusalOfRow 14 = .ok (.aaload, 1) := by decide +kernel
theorem dX10_refusalOfRow_15 : decode cX10_refusalOfRow 15 = .ok (.invokevirtual 78, 3) := by decide +kernel
theorem dX10_refusalOfRow_18 : decode cX10_refusalOfRow 18 = .ok (.ifCond .eq 6, 3) := by decide +kernel
theorem dX10_refusalOfRow_21 : decode cX10_refusalOfRow 21 = .ok (.bipush (-2), 2) := by decide +kernel
theorem dX10_refusalOfRow_23 : decode cX10_refusalOfRow 23 = .ok (.ireturn, 1) := by decide +kernel
theorem dX10_refusalOfRow_24 : decode cX10_refusalOfRow 24 = .ok (.aload_n 0, 1) := by decide +kernel
theorem dX10_refusalOfRow_25 : decode cX10_refusalOfRow 25 = .ok (.getfield 11, 3) := by decide +kernel
theorem dX10_refusalOfRow_28 : decode cX10_refusalOfRow 28 = .ok (.iload_n 1, 1) := by decide +kernel
theorem dX10_refusalOfRow_29 : decode cX10_refusalOfRow 29 = .ok (.aaload, 1) := by decide +kernel
theorem dX10_refusalOfRow_30 : decode cX10_refusalOfRow 30 = .ok (.invokevirtual 86, 3) := by decide +kernel
theorem dX10_refusalOfRow_33 : decode cX10_refusalOfRow 33 = .ok (.ifCond .eq 8, 3) := by decide +kernel
theorem dX10_refusalOfRow_36 : decode cX10_refusalOfRow 36 = .ok (.bipush (-3), 2) := by decide +kernel
theorem dX10_refusalOfRow_38 : decode cX10_refusalOfRow 38 = .ok (.goto 4, 3) := by decide +kernel
theorem dX10_refusalOfRow_41 : decode cX10_refusalOfRow 41 = .ok (.iconst 0, 1) := by decide +kernel
theorem dX10_refusalOfRow_42 : decode cX10_refusalOfRow 42 = .ok (.ireturn, 1) := by decide +kernel
theorem dX10_isWithin_0 : decode cX10_isWithin 0 = .ok (.iload_n 0, 1) := by decide +kernel
theorem dX10_isWithin_1 : decode cX10_isWithin 1 = .ok (.iload_n 1, 1) := by decide +kernel
theorem dX10_isWithin_2 : decode cX10_isWithin 2 = .ok (.if_icmp .lt 12, 3) := by decide +kernel
theorem dX10_isWithin_5 : decode cX10_isWithin 5 = .ok (.iload_n 0, 1) := by decide +kernel
theorem dX10_isWithin_6 : decode cX10_isWithin 6 = .ok (.iload_n 2, 1) := by decide +kernel
theorem dX10_isWithin_7 : decode cX10_isWithin 7 = .ok (.if_icmp .gt 7, 3) := by decide +kernel
theorem dX10_isWithin_10 : decode cX10_isWithin 10 = .ok (.iconst 1, 1) := by decide +kernel
theorem dX10_isWithin_11 : decode cX10_isWithin 11 = .ok (.goto 4, 3) := by decide +kernel
theorem dX10_isWithin_14 : decode cX10_isWithin 14 = .ok (.iconst 0, 1) := by decide +kernel
theorem dX10_isWithin_15 : decode cX10_isWithin 15 = .ok (.ireturn, 1) := by decide +kernel
theorem dX10_isShelf_0 : decode cX10_isShelf 0 = .ok (.iload_n 0, 1) := by decide +kernel
theorem dX10_isShelf_1 : decode cX10_isShelf 1 = .ok (.iconst 0, 1) := by decide +kernel
theorem dX10_isShelf_2 : decode cX10_isShelf 2 = .ok (.bipush 7, 2) := by decide +kernel
theorem dX10_isShelf_4 : decode cX10_isShelf 4 = .ok (.invokestatic 137, 3) := by decide +kernel
theorem dX10_isShelf_7 : decode cX10_isShelf 7 = .ok (.ireturn, 1) := by decide +kernel
theorem dX10_isSpot_0 : decode cX10_isSpot 0 = .ok (.iload_n 0, 1) := by decide +kernel
theorem dX10_isSpot_1 : decode cX10_isSpot 1 = .ok (.iconst 0, 1) := by decide +kernel
theorem dX10_isSpot_2 : decode cX10_isSpot 2 = .ok (.bipush 63, 2) := by decide +kernel
theorem dX10_isSpot_4 : decode cX10_isSpot 4 = .ok (.invokestatic 137, 3) := by decide +kernel
theorem dX10_isSpot_7 : decode cX10_isSpot 7 = .ok (.ireturn, 1) := by decide +kernel
theorem dX10_isTone_0 : decode cX10_isTone 0 = .ok (.iload_n 0, 1) := by decide +kernel
theorem dX10_isTone_1 : decode cX10_isTone 1 = .ok (.bipush 20, 2) := by decide +kernel
theorem dX10_isTone_3 : decode cX10_isTone 3 = .ok (.bipush 99, 2) := by decide +kernel
theorem dX10_isTone_5 : decode cX10_isTone 5 = .ok (.invokestatic 137, 3) := by decide +kernel
theorem dX10_isTone_8 : decode cX10_isTone 8 = .ok (.ireturn, 1) := by decide +kernel
theorem dX10_isHour_0 : decode cX10_isHour 0 = .ok (.iload_n 0, 1) := by decide +kernel
theorem dX10_isHour_1 : decode cX10_isHour 1 = .ok (.iconst 0, 1) := by decide +kernel
theorem dX10_isHour_2 : decode cX10_isHour 2 = .ok (.sipush 239, 3) := by decide +kernel
theorem dX10_isHour_5 : decode cX10_isHour 5 = .ok (.invokestatic 137, 3) := by decide +kernel
theorem dX10_isHour_8 : decode cX10_isHour 8 = .ok (.ireturn, 1) := by decide +kernel
theorem dX10_areHours_0 : decode cX10_areHours 0 = .ok (.iload_n 0, 1) := by decide +kernel
theorem dX10_areHours_1 : decode cX10_areHours 1 = .ok (.invokestatic 195, 3) := by decide +kernel
theorem dX10_areHours_4 : decode cX10_areHours 4 = .ok (.ifCond .eq 19, 3) := by decide +kernel
theorem dX10_areHours_7 : decode cX10_areHours 7 = .ok (.iload_n 1, 1) := by decide +kernel
theorem dX10_areHours_8 : decode cX10_areHours 8 = .ok (.invokestatic 195, 3) := by decide +kernel
theorem dX10_areHours_11 : decode cX10_areHours 11 = .ok (.ifCond .eq 12, 3) := by decide +kernel
theorem dX10_areHours_14 : decode cX10_areHours 14 = .ok (.iload_n 0, 1) := by decide +kernel
theorem dX10_areHours_15 : decode cX10_areHours 15 = .ok (.iload_n 1, 1) := by decide +kernel
theorem dX10_areHours_16 : decode cX10_areHours 16 = .ok (.if_icmp .gt 7, 3) := by decide +kernel
theorem dX10_areHours_19 : decode cX10_areHours 19 = .ok (.iconst 1, 1) := by decide +kernel
theorem dX10_areHours_20 : decode cX10_areHours 20 = .ok (.goto 4, 3) := by decide +kernel
theorem dX10_areHours_23 : decode cX10_areHours 23 = .ok (.iconst 0, 1) := by decide +kernel
theorem dX10_areHours_24 : decode cX10_areHours 24 = .ok (.ireturn, 1) := by decide +kernel
theorem dX10_bit_0 : decode cX10_bit 0 = .ok (.iconst 1, 1) := by decide +kernel
theorem dX10_bit_1 : decode cX10_bit 1 = .ok (.iload_n 0, 1) := by decide +kernel
theorem dX10_bit_2 : decode cX10_bit 2 = .ok (.ishl, 1) := by decide +kernel
theorem dX10_bit_3 : decode cX10_bit 3 = .ok (.ireturn, 1) := by decide +kernel
theorem dX10_hasBit_0 : decode cX10_hasBit 0 = .ok (.iload_n 0, 1) := by decide +kernel
theorem dX10_hasBit_1 : decode cX10_hasBit 1 = .ok (.iload_n 1, 1) := by decide +kernel
theorem dX10_hasBit_2 : decode cX10_hasBit 2 = .ok (.ishr, 1) := by decide +kernel
theorem dX10_hasBit_3 : decode cX10_hasBit 3 = .ok (.iconst 1, 1) := by decide +kernel
theorem dX10_hasBit_4 : decode cX10_hasBit 4 = .ok (.iand, 1) := by decide +kernel
theorem dX10_hasBit_5 : decode cX10_hasBit 5 = .ok (.ifCond .eq 7, 3) := by decide +kernel
theorem dX10_hasBit_8 : decode cX10_hasBit 8 = .ok (.iconst 1, 1) := by decide +kernel
theorem dX10_hasBit_9 : decode cX10_hasBit 9 = .ok (.goto 4, 3) := by decide +kernel
theorem dX10_hasBit_12 : decode cX10_hasBit 12 = .ok (.iconst 0, 1) := by decide +kernel
theorem dX10_hasBit_13 : decode cX10_hasBit 13 = .ok (.ireturn, 1) := by decide +kernel
theorem dX10_beat_0 : decode cX10_beat 0 = .ok (.iload_n 0, 1) := by decide +kernel
theorem dX10_beat_1 : decode cX10_beat 1 = .ok (.iload_n 1, 1) := by decide +kernel
theorem dX10_beat_2 : decode cX10_beat 2 = .ok (.isub, 1) := by decide +kernel
theorem dX10_beat_3 : decode cX10_beat 3 = .ok (.invokestatic 368, 3) := by decide +kernel
theorem dX10_beat_6 : decode cX10_beat 6 = .ok (.istore_n 2, 1) := by decide +kernel
theorem dX10_beat_7 : decode cX10_beat 7 = .ok (.iload_n 2, 1) := by decide +kernel
theorem dX10_beat_8 : decode cX10_beat 8 = .ok (.iconst 1, 1) := by decide +kernel
theorem dX10_beat_9 : decode cX10_beat 9 = .ok (.if_icmp .lt 12, 3) := by decide +kernel
theorem dX10_beat_12 : decode cX10_beat 12 = .ok (.iload_n 2, 1) := by decide +kernel
theorem dX10_beat_13 : decode cX10_beat 13 = .ok (.iconst 4, 1) := by decide +kernel
theorem dX10_beat_14 : decode cX10_beat 14 = .ok (.if_icmp .gt 7, 3) := by decide +kernel
theorem dX10_beat_17 : decode cX10_beat 17 = .ok (.iconst 1, 1) := by decide +kernel
theorem dX10_beat_18 : decode cX10_beat 18 = .ok (.goto 4, 3) := by decide +kernel
theorem dX10_beat_21 : decode cX10_beat 21 = .ok (.iconst 0, 1) := by decide +kernel
theorem dX10_beat_22 : decode cX10_beat 22 = .ok (.ireturn, 1) := by decide +kernel
theorem dX10_farApart_0 : decode cX10_farApart 0 = .ok (.iload_n 0, 1) := by decide +kernel
theorem dX10_farApart_1 : decode cX10_farApart 1 = .ok (.bipush 8, 2) := by decide +kernel
theorem dX10_farApart_3 : decode cX10_farApart 3 = .ok (.idiv, 1) := by decide +kernel
theorem dX10_farApart_4 : decode cX10_farApart 4 = .ok (.iload_n 1, 1) := by decide +kernel
theorem dX10_farApart_5 : decode cX10_farApart 5 = .ok (.bipush 8, 2) := by decide +kernel
theorem dX10_farApart_7 : decode cX10_farApart 7 = .ok (.idiv, 1) := by decide +kernel
theorem dX10_farApart_8 : decode cX10_farApart 8 = .ok (.isub, 1) := by decide +kernel
theorem dX10_farApart_9 : decode cX10_farApart 9 = .ok (.invokestatic 368, 3) := by decide +kernel
theorem dX10_farApart_12 : decode cX10_farApart 12 = .ok (.iload_n 0, 1) := by decide +kernel
theorem dX10_farApart_13 : decode cX10_farApart 13 = .ok (.bipush 8, 2) := by decide +kernel
theorem dX10_farApart_15 : decode cX10_farApart 15 = .ok (.irem, 1) := by decide +kernel
theorem dX10_farApart_16 : decode cX10_farApart 16 = .ok (.iload_n 1, 1) := by decide +kernel
theorem dX10_farApart_17 : decode cX10_farApart 17 = .ok (.bipush 8, 2) := by decide +kernel
theorem dX10_farApart_19 : decode cX10_farApart 19 = .ok (.irem, 1) := by decide +kernel
theorem dX10_farApart_20 : decode cX10_farApart 20 = .ok (.isub, 1) := by decide +kernel
theorem dX10_farApart_21 : decode cX10_farApart 21 = .ok (.invokestatic 368, 3) := by decide +kernel
theorem dX10_farApart_24 : decode cX10_farApart 24 = .ok (.iadd, 1) := by decide +kernel
theorem dX10_farApart_25 : decode cX10_farApart 25 = .ok (.ireturn, 1) := by decide +kernel
theorem dX10_doublingsTo_0 : decode cX10_doublingsTo 0 = .ok (.iconst 0, 1) := by decide +kernel
theorem dX10_doublingsTo_1 : decode cX10_doublingsTo 1 = .ok (.istore_n 1, 1) := by decide +kernel
theorem dX10_doublingsTo_2 : decode cX10_doublingsTo 2 = .ok (.iload_n 1, 1) := by decide +kernel
theorem dX10_doublingsTo_3 : decode cX10_doublingsTo 3 = .ok (.bipush 30, 2) := by decide +kernel
theorem dX10_doublingsTo_5 : decode cX10_doublingsTo 5 = .ok (.if_icmp .ge 16, 3) := by decide +kernel
theorem dX10_doublingsTo_8 : decode cX10_doublingsTo 8 = .ok (.iconst 1, 1) := by decide +kernel
theorem dX10_doublingsTo_9 : decode cX10_doublingsTo 9 = .ok (.iload_n 1, 1) := by decide +kernel
theorem dX10_doublingsTo_10 : decode cX10_doublingsTo 10 = .ok (.ishl, 1) := by decide +kernel
theorem dX10_doublingsTo_11 : decode cX10_doublingsTo 11 = .ok (.iload_n 0, 1) := by decide +kernel
theorem dX10_doublingsTo_12 : decode cX10_doublingsTo 12 = .ok (.if_icmp .ge 9, 3) := by decide +kernel
theorem dX10_doublingsTo_15 : decode cX10_doublingsTo 15 = .ok (.iinc 1 1, 3) := by decide +kernel
theorem dX10_doublingsTo_18 : decode cX10_doublingsTo 18 = .ok (.goto (-16), 3) := by decide +kernel
theorem dX10_doublingsTo_21 : decode cX10_doublingsTo 21 = .ok (.iload_n 1, 1) := by decide +kernel
theorem dX10_doublingsTo_22 : decode cX10_doublingsTo 22 = .ok (.ireturn, 1) := by decide +kernel
theorem dJ6_bitCount_0f7a4_0 : decode cJ6_bitCount_0f7a4 0 = .ok (.iload_n 0, 1) := by decide +kernel
theorem dJ6_bitCount_0f7a4_1 : decode cJ6_bitCount_0f7a4 1 = .ok (.iload_n 0, 1) := by decide +kernel
theorem dJ6_bitCount_0f7a4_2 : decode cJ6_bitCount_0f7a4 2 = .ok (.iconst 1, 1) := by decide +kernel
theorem dJ6_bitCount_0f7a4_3 : decode cJ6_bitCount_0f7a4 3 = .ok (.iushr, 1) := by decide +kernel
theorem dJ6_bitCount_0f7a4_4 : decode cJ6_bitCount_0f7a4 4 = .ok (.ldc_w 265, 3) := by decide +kernel
theorem dJ6_bitCount_0f7a4_7 : decode cJ6_bitCount_0f7a4 7 = .ok (.iand, 1) := by decide +kernel
theorem dJ6_bitCount_0f7a4_8 : decode cJ6_bitCount_0f7a4 8 = .ok (.isub, 1) := by decide +kernel
theorem dJ6_bitCount_0f7a4_9 : decode cJ6_bitCount_0f7a4 9 = .ok (.istore_n 0, 1) := by decide +kernel
theorem dJ6_bitCount_0f7a4_10 : decode cJ6_bitCount_0f7a4 10 = .ok (.iload_n 0, 1) := by decide +kernel
theorem dJ6_bitCount_0f7a4_11 : decode cJ6_bitCount_0f7a4 11 = .ok (.ldc_w 266, 3) := by decide +kernel
theorem dJ6_bitCount_0f7a4_14 : decode cJ6_bitCount_0f7a4 14 = .ok (.iand, 1) := by decide +kernel
theorem dJ6_bitCount_0f7a4_15 : decode cJ6_bitCount_0f7a4 15 = .ok (.iload_n 0, 1) := by decide +kernel
theorem dJ6_bitCount_0f7a4_16 : decode cJ6_bitCount_0f7a4 16 = .ok (.iconst 2, 1) := by decide +kernel
theorem dJ6_bitCount_0f7a4_17 : decode cJ6_bitCount_0f7a4 17 = .ok (.iushr, 1) := by decide +kernel
theorem dJ6_bitCount_0f7a4_18 : decode cJ6_bitCount_0f7a4 18 = .ok (.ldc_w 266, 3) := by decide +kernel
theorem dJ6_bitCount_0f7a4_21 : decode cJ6_bitCount_0f7a4 21 = .ok (.iand, 1) := by decide +kernel
theorem dJ6_bitCount_0f7a4_22 : decode cJ6_bitCount_0f7a4 22 = .ok (.iadd, 1) := by decide +kernel
theorem dJ6_bitCount_0f7a4_23 : decode cJ6_bitCount_0f7a4 23 = .ok (.istore_n 0, 1) := by decide +kernel
theorem dJ6_bitCount_0f7a4_24 : decode cJ6_bitCount_0f7a4 24 = .ok (.iload_n 0, 1) := by decide +kernel
theorem dJ6_bitCount_0f7a4_25 : decode cJ6_bitCount_0f7a4 25 = .ok (.iload_n 0, 1) := by decide +kernel
theorem dJ6_bitCount_0f7a4_26 : decode cJ6_bitCount_0f7a4 26 = .ok (.iconst 4, 1) := by decide +kernel
theorem dJ6_bitCount_0f7a4_27 : decode cJ6_bitCount_0f7a4 27 = .ok (.iushr, 1) := by decide +kernel
theorem dJ6_bitCount_0f7a4_28 : decode cJ6_bitCount_0f7a4 28 = .ok (.iadd, 1) := by decide +kernel
theorem dJ6_bitCount_0f7a4_29 : decode cJ6_bitCount_0f7a4 29 = .ok (.ldc_w 267, 3) := by decide +kernel
theorem dJ6_bitCount_0f7a4_32 : decode cJ6_bitCount_0f7a4 32 = .ok (.iand, 1) := by decide +kernel
theorem dJ6_bitCount_0f7a4_33 : decode cJ6_bitCount_0f7a4 33 = .ok (.istore_n 0, 1) := by decide +kernel
theorem dJ6_bitCount_0f7a4_34 : decode cJ6_bitCount_0f7a4 34 = .ok (.iload_n 0, 1) := by decide +kernel
theorem dJ6_bitCount_0f7a4_35 : decode cJ6_bitCount_0f7a4 35 = .ok (.iload_n 0, 1) := by decide +kernel
theorem dJ6_bitCount_0f7a4_36 : decode cJ6_bitCount_0f7a4 36 = .ok (.bipush 8, 2) := by decide +kernel
theorem dJ6_bitCount_0f7a4_38 : decode cJ6_bitCount_0f7a4 38 = .ok (.iushr, 1) := by decide +kernel
theorem dJ6_bitCount_0f7a4_39 : decode cJ6_bitCount_0f7a4 39 = .ok (.iadd, 1) := by decide +kernel
theorem dJ6_bitCount_0f7a4_40 : decode cJ6_bitCount_0f7a4 40 = .ok (.istore_n 0, 1) := by decide +kernel
theorem dJ6_bitCount_0f7a4_41 : decode cJ6_bitCount_0f7a4 41 = .ok (.iload_n 0, 1) := by decide +kernel
theorem dJ6_bitCount_0f7a4_42 : decode cJ6_bitCount_0f7a4 42 = .ok (.iload_n 0, 1) := by decide +kernel
theorem dJ6_bitCount_0f7a4_43 : decode cJ6_bitCount_0f7a4 43 = .ok (.bipush 16, 2) := by decide +kernel
theorem dJ6_bitCount_0f7a4_45 : decode cJ6_bitCount_0f7a4 45 = .ok (.iushr, 1) := by decide +kernel
theorem dJ6_bitCount_0f7a4_46 : decode cJ6_bitCount_0f7a4 46 = .ok (.iadd, 1) := by decide +kernel
theorem dJ6_bitCount_0f7a4_47 : decode cJ6_bitCount_0f7a4 47 = .ok (.istore_n 0, 1) := by decide +kernel
theorem dJ6_bitCount_0f7a4_48 : decode cJ6_bitCount_0f7a4 48 = .ok (.iload_n 0, 1) := by decide +kernel
theorem dJ6_bitCount_0f7a4_49 : decode cJ6_bitCount_0f7a4 49 = .ok (.bipush 63, 2) := by decide +kernel
theorem dJ6_bitCount_0f7a4_51 : decode cJ6_bitCount_0f7a4 51 = .ok (.iand, 1) := by decide +kernel
theorem dJ6_bitCount_0f7a4_52 : decode cJ6_bitCount_0f7a4 52 = .ok (.ireturn, 1) := by decide +kernel
theorem dJ9_abs_0f7a4_0 : decode cJ9_abs_0f7a4 0 = .ok (.iload_n 0, 1) := by decide +kernel
theorem dJ9_abs_0f7a4_1 : decode cJ9_abs_0f7a4 1 = .ok (.ifCond .ge 8, 3) := by decide +kernel
theorem dJ9_abs_0f7a4_4 : decode cJ9_abs_0f7a4 4 = .ok (.iload_n 0, 1) := by decide +kernel
theorem dJ9_abs_0f7a4_5 : decode cJ9_abs_0f7a4 5 = .ok (.ineg, 1) := by decide +kernel
theorem dJ9_abs_0f7a4_6 : decode cJ9_abs_0f7a4 6 = .ok (.goto 4, 3) := by decide +kernel
theorem dJ9_abs_0f7a4_9 : decode cJ9_abs_0f7a4 9 = .ok (.iload_n 0, 1) := by decide +kernel
theorem dJ9_abs_0f7a4_10 : decode cJ9_abs_0f7a4 10 = .ok (.ireturn, 1) := by decide +kernel
theorem dJ9_max_7cf53_0 : decode cJ9_max_7cf53 0 = .ok (.iload_n 0, 1) := by decide +kernel
theorem dJ9_max_7cf53_1 : decode cJ9_max_7cf53 1 = .ok (.iload_n 1, 1) := by decide +kernel
theorem dJ9_max_7cf53_2 : decode cJ9_max_7cf53 2 = .ok (.if_icmp .lt 7, 3) := by decide +kernel
theorem dJ9_max_7cf53_5 : decode cJ9_max_7cf53 5 = .ok (.iload_n 0, 1) := by decide +kernel
theorem dJ9_max_7cf53_6 : decode cJ9_max_7cf53 6 = .ok (.goto 4, 3) := by decide +kernel
theorem dJ9_max_7cf53_9 : decode cJ9_max_7cf53 9 = .ok (.iload_n 1, 1) := by decide +kernel
theorem dJ9_max_7cf53_10 : decode cJ9_max_7cf53 10 = .ok (.ireturn, 1) := by decide +kernel
theorem dJ9_min_7cf53_0 : decode cJ9_min_7cf53 0 = .ok (.iload_n 0, 1) := by decide +kernel
theorem dJ9_min_7cf53_1 : decode cJ9_min_7cf53 1 = .ok (.iload_n 1, 1) := by decide +kernel
theorem dJ9_min_7cf53_2 : decode cJ9_min_7cf53 2 = .ok (.if_icmp .gt 7, 3) := by decide +kernel
theorem dJ9_min_7cf53_5 : decode cJ9_min_7cf53 5 = .ok (.iload_n 0, 1) := by decide +kernel
theorem dJ9_min_7cf53_6 : decode cJ9_min_7cf53 6 = .ok (.goto 4, 3) := by decide +kernel
theorem dJ9_min_7cf53_9 : decode cJ9_min_7cf53 9 = .ok (.iload_n 1, 1) := by decide +kernel
theorem dJ9_min_7cf53_10 : decode cJ9_min_7cf53 10 = .ok (.ireturn, 1) := by decide +kernel
theorem dJ0_length_8abf5_0 : decode cJ0_length_8abf5 0 = .ok (.aload_n 0, 1) := by decide +kernel
theorem dJ0_length_8abf5_1 : decode cJ0_length_8abf5 1 = .ok (.getfield 9, 3) := by decide +kernel
theorem dJ0_length_8abf5_4 : decode cJ0_length_8abf5 4 = .ok (.arraylength, 1) := by decide +kernel
theorem dJ0_length_8abf5_5 : decode cJ0_length_8abf5 5 = .ok (.aload_n 0, 1) := by decide +kernel
theorem dJ0_length_8abf5_6 : decode cJ0_length_8abf5 6 = .ok (.invokevirtual 335, 3) := by decide +kernel
theorem dJ0_length_8abf5_9 : decode cJ0_length_8abf5 9 = .ok (.ishr, 1) := by decide +kernel
theorem dJ0_length_8abf5_10 : decode cJ0_length_8abf5 10 = .ok (.ireturn, 1) := by decide +kernel
theorem dJ0_charAt_5068e_0 : decode cJ0_charAt_5068e 0 = .ok (.aload_n 0, 1) := by decide +kernel
theorem dJ0_charAt_5068e_1 : decode cJ0_charAt_5068e 1 = .ok (.invokevirtual 492, 3) := by decide +kernel
theorem dJ0_charAt_5068e_4 : decode cJ0_charAt_5068e 4 = .ok (.ifCond .eq 12, 3) := by decide +kernel
theorem dJ0_charAt_5068e_7 : decode cJ0_charAt_5068e 7 = .ok (.aload_n 0, 1) := by decide +kernel
theorem dJ0_charAt_5068e_8 : decode cJ0_charAt_5068e 8 = .ok (.getfield 9, 3) := by decide +kernel
theorem dJ0_charAt_5068e_11 : decode cJ0_charAt_5068e 11 = .ok (.iload_n 1, 1) := by decide +kernel
theorem dJ0_charAt_5068e_12 : decode cJ0_charAt_5068e 12 = .ok (.invokestatic 495, 3) := by decide +kernel
theorem dJ0_charAt_5068e_15 : decode cJ0_charAt_5068e 15 = .ok (.ireturn, 1) := by decide +kernel
theorem dJ0_charAt_5068e_16 : decode cJ0_charAt_5068e 16 = .ok (.aload_n 0, 1) := by decide +kernel
theorem dJ0_charAt_5068e_17 : decode cJ0_charAt_5068e 17 = .ok (.getfield 9, 3) := by decide +kernel
theorem dJ0_charAt_5068e_20 : decode cJ0_charAt_5068e 20 = .ok (.iload_n 1, 1) := by decide +kernel
theorem dJ0_charAt_5068e_21 : decode cJ0_charAt_5068e 21 = .ok (.invokestatic 498, 3) := by decide +kernel
theorem dJ0_charAt_5068e_24 : decode cJ0_charAt_5068e 24 = .ok (.ireturn, 1) := by decide +kernel
theorem dJ0_coder_7d493_0 : decode cJ0_coder_7d493 0 = .ok (.getstatic 38, 3) := by decide +kernel
theorem dJ0_coder_7d493_3 : decode cJ0_coder_7d493 3 = .ok (.ifCond .eq 10, 3) := by decide +kernel
theorem dJ0_coder_7d493_6 : decode cJ0_coder_7d493 6 = .ok (.aload_n 0, 1) := by decide +kernel
theorem dJ0_coder_7d493_7 : decode cJ0_coder_7d493 7 = .ok (.getfield 15, 3) := by decide +kernel
theorem dJ0_coder_7d493_10 : decode cJ0_coder_7d493 10 = .ok (.goto 4, 3) := by decide +kernel
theorem dJ0_coder_7d493_13 : decode cJ0_coder_7d493 13 = .ok (.iconst 1, 1) := by decide +kernel
theorem dJ0_coder_7d493_14 : decode cJ0_coder_7d493 14 = .ok (.ireturn, 1) := by decide +kernel
theorem dJ0_isLatin1_aae02_0 : decode cJ0_isLatin1_aae02 0 = .ok (.getstatic 38, 3) := by decide +kernel
theorem dJ0_isLatin1_aae02_3 : decode cJ0_isLatin1_aae02 3 = .ok (.ifCond .eq 14, 3) := by decide +kernel
theorem dJ0_isLatin1_aae02_6 : decode cJ0_isLatin1_aae02 6 = .ok (.aload_n 0, 1) := by decide +kernel
theorem dJ0_isLatin1_aae02_7 : decode cJ0_isLatin1_aae02 7 = .ok (.getfield 15, 3) := by decide +kernel
theorem dJ0_isLatin1_aae02_10 : decode cJ0_isLatin1_aae02 10 = .ok (.ifCond .ne 7, 3) := by decide +kernel
theorem dJ0_isLatin1_aae02_13 : decode cJ0_isLatin1_aae02 13 = .ok (.iconst 1, 1) := by decide +kernel
theorem dJ0_isLatin1_aae02_14 : decode cJ0_isLatin1_aae02 14 = .ok (.goto 4, 3) := by decide +kernel
theorem dJ0_isLatin1_aae02_17 : decode cJ0_isLatin1_aae02 17 = .ok (.iconst 0, 1) := by decide +kernel
theorem dJ0_isLatin1_aae02_18 : decode cJ0_isLatin1_aae02 18 = .ok (.ireturn, 1) := by decide +kernel
theorem dJ0_checkIndex_df160_0 : decode cJ0_checkIndex_df160 0 = .ok (.iload_n 0, 1) := by decide +kernel
theorem dJ0_checkIndex_df160_1 : decode cJ0_checkIndex_df160 1 = .ok (.iload_n 1, 1) := by decide +kernel
theorem dJ0_checkIndex_df160_2 : decode cJ0_checkIndex_df160 2 = .ok (.getstatic 1053, 3) := by decide +kernel
theorem dJ0_checkIndex_df160_5 : decode cJ0_checkIndex_df160 5 = .ok (.invokestatic 1059, 3) := by decide +kernel
theorem dJ0_checkIndex_df160_8 : decode cJ0_checkIndex_df160 8 = .ok (.pop, 1) := by decide +kernel
theorem dJ0_checkIndex_df160_9 : decode cJ0_checkIndex_df160 9 = .ok (.return_, 1) := by decide +kernel
theorem dJ1_charAt_3b067_0 : decode cJ1_charAt_3b067 0 = .ok (.iload_n 1, 1) := by decide +kernel
theorem dJ1_charAt_3b067_1 : decode cJ1_charAt_3b067 1 = .ok (.aload_n 0, 1) := by decide +kernel
theorem dJ1_charAt_3b067_2 : decode cJ1_charAt_3b067 2 = .ok (.arraylength, 1) := by decide +kernel
theorem dJ1_charAt_3b067_3 : decode cJ1_charAt_3b067 3 = .ok (.invokestatic 9, 3) := by decide +kernel
theorem dJ1_charAt_3b067_6 : decode cJ1_charAt_3b067 6 = .ok (.aload_n 0, 1) := by decide +kernel
theorem dJ1_charAt_3b067_7 : decode cJ1_charAt_3b067 7 = .ok (.iload_n 1, 1) := by decide +kernel
theorem dJ1_charAt_3b067_8 : decode cJ1_charAt_3b067 8 = .ok (.baload, 1) := by decide +kernel
theorem dJ1_charAt_3b067_9 : decode cJ1_charAt_3b067 9 = .ok (.sipush 255, 3) := by decide +kernel
theorem dJ1_charAt_3b067_12 : decode cJ1_charAt_3b067 12 = .ok (.iand, 1) := by decide +kernel
theorem dJ1_charAt_3b067_13 : decode cJ1_charAt_3b067 13 = .ok (.i2c, 1) := by decide +kernel
theorem dJ1_charAt_3b067_14 : decode cJ1_charAt_3b067 14 = .ok (.ireturn, 1) := by decide +kernel
theorem dJ2_getChar_3b067_0 : decode cJ2_getChar_3b067 0 = .ok (.getstatic 44, 3) := by decide +kernel
theorem dJ2_getChar_3b067_3 : decode cJ2_getChar_3b067 3 = .ok (.ifCond .ne 25, 3) := by decide +kernel
theorem dJ2_getChar_3b067_6 : decode cJ2_getChar_3b067 6 = .ok (.iload_n 1, 1) := by decide +kernel
theorem dJ2_getChar_3b067_7 : decode cJ2_getChar_3b067 7 = .ok (.ifCond .lt 11, 3) := by decide +kernel
theorem dJ2_getChar_3b067_10 : decode cJ2_getChar_3b067 10 = .ok (.iload_n 1, 1) := by decide +kernel
theorem dJ2_getChar_3b067_11 : decode cJ2_getChar_3b067 11 = .ok (.aload_n 0, 1) := by decide +kernel
theorem dJ2_getChar_3b067_12 : decode cJ2_getChar_3b067 12 = .ok (.invokestatic 48, 3) := by decide +kernel
theorem dJ2_getChar_3b067_15 : decode cJ2_getChar_3b067 15 = .ok (.if_icmp .lt 13, 3) := by decide +kernel
theorem dJ2_getChar_3b067_18 : decode cJ2_getChar_3b067 18 = .ok (.new 52, 3) := by decide +kernel
theorem dJ2_getChar_3b067_21 : decode cJ2_getChar_3b067 21 = .ok (.dup, 1) := by decide +kernel
theorem dJ2_getChar_3b067_22 : decode cJ2_getChar_3b067 22 = .ok (.ldc 54, 2) := by decide +kernel
theorem dJ2_getChar_3b067_24 : decode cJ2_getChar_3b067 24 = .ok (.invokespecial 56, 3) := by decide +kernel
theorem dJ2_getChar_3b067_27 : decode cJ2_getChar_3b067 27 = .ok (.athrow, 1) := by decide +kernel
theorem dJ2_getChar_3b067_28 : decode cJ2_getChar_3b067 28 = .ok (.iload_n 1, 1) := by decide +kernel
theorem dJ2_getChar_3b067_29 : decode cJ2_getChar_3b067 29 = .ok (.iconst 1, 1) := by decide +kernel
theorem dJ2_getChar_3b067_30 : decode cJ2_getChar_3b067 30 = .ok (.ishl, 1) := by decide +kernel
theorem dJ2_getChar_3b067_31 : decode cJ2_getChar_3b067 31 = .ok (.istore_n 1, 1) := by decide +kernel
theorem dJ2_getChar_3b067_32 : decode cJ2_getChar_3b067 32 = .ok (.aload_n 0, 1) := by decide +kernel
theorem dJ2_getChar_3b067_33 : decode cJ2_getChar_3b067 33 = .ok (.iload_n 1, 1) := by decide +kernel
theorem dJ2_getChar_3b067_34 : decode cJ2_getChar_3b067 34 = .ok (.iinc 1 1, 3) := by decide +kernel
theorem dJ2_getChar_3b067_37 : decode cJ2_getChar_3b067 37 = .ok (.baload, 1) := by decide +kernel
theorem dJ2_getChar_3b067_38 : decode cJ2_getChar_3b067 38 = .ok (.sipush 255, 3) := by decide +kernel
theorem dJ2_getChar_3b067_41 : decode cJ2_getChar_3b067 41 = .ok (.iand, 1) := by decide +kernel
theorem dJ2_getChar_3b067_42 : decode cJ2_getChar_3b067 42 = .ok (.getstatic 59, 3) := by decide +kernel
theorem dJ2_getChar_3b067_45 : decode cJ2_getChar_3b067 45 = .ok (.ishl, 1) := by decide +kernel
theorem dJ2_getChar_3b067_46 : decode cJ2_getChar_3b067 46 = .ok (.aload_n 0, 1) := by decide +kernel
theorem dJ2_getChar_3b067_47 : decode cJ2_getChar_3b067 47 = .ok (.iload_n 1, 1) := by decide +kernel
theorem dJ2_getChar_3b067_48 : decode cJ2_getChar_3b067 48 = .ok (.baload, 1) := by decide +kernel
theorem dJ2_getChar_3b067_49 : decode cJ2_getChar_3b067 49 = .ok (.sipush 255, 3) := by decide +kernel
theorem dJ2_getChar_3b067_52 : decode cJ2_getChar_3b067 52 = .ok (.iand, 1) := by decide +kernel
theorem dJ2_getChar_3b067_53 : decode cJ2_getChar_3b067 53 = .ok (.getstatic 63, 3) := by decide +kernel
theorem dJ2_getChar_3b067_56 : decode cJ2_getChar_3b067 56 = .ok (.ishl, 1) := by decide +kernel
theorem dJ2_getChar_3b067_57 : decode cJ2_getChar_3b067 57 = .ok (.ior, 1) := by decide +kernel
theorem dJ2_getChar_3b067_58 : decode cJ2_getChar_3b067 58 = .ok (.i2c, 1) := by decide +kernel
theorem dJ2_getChar_3b067_59 : decode cJ2_getChar_3b067 59 = .ok (.ireturn, 1) := by decide +kernel
theorem dJ2_length_9d52b_0 : decode cJ2_length_9d52b 0 = .ok (.aload_n 0, 1) := by decide +kernel
theorem dJ2_length_9d52b_1 : decode cJ2_length_9d52b 1 = .ok (.arraylength, 1) := by decide +kernel
theorem dJ2_length_9d52b_2 : decode cJ2_length_9d52b 2 = .ok (.iconst 1, 1) := by decide +kernel
theorem dJ2_length_9d52b_3 : decode cJ2_length_9d52b 3 = .ok (.ishr, 1) := by decide +kernel
theorem dJ2_length_9d52b_4 : decode cJ2_length_9d52b 4 = .ok (.ireturn, 1) := by decide +kernel
theorem dJ2_charAt_3b067_0 : decode cJ2_charAt_3b067 0 = .ok (.iload_n 1, 1) := by decide +kernel
theorem dJ2_charAt_3b067_1 : decode cJ2_charAt_3b067 1 = .ok (.aload_n 0, 1) := by decide +kernel
theorem dJ2_charAt_3b067_2 : decode cJ2_charAt_3b067 2 = .ok (.invokestatic 67, 3) := by decide +kernel
theorem dJ2_charAt_3b067_5 : decode cJ2_charAt_3b067 5 = .ok (.aload_n 0, 1) := by decide +kernel
theorem dJ2_charAt_3b067_6 : decode cJ2_charAt_3b067 6 = .ok (.iload_n 1, 1) := by decide +kernel
theorem dJ2_charAt_3b067_7 : decode cJ2_charAt_3b067 7 = .ok (.invokestatic 71, 3) := by decide +kernel
theorem dJ2_charAt_3b067_10 : decode cJ2_charAt_3b067 10 = .ok (.ireturn, 1) := by decide +kernel
theorem dJ2_checkIndex_2214a_0 : decode cJ2_checkIndex_2214a 0 = .ok (.iload_n 0, 1) := by decide +kernel
theorem dJ2_checkIndex_2214a_1 : decode cJ2_checkIndex_2214a 1 = .ok (.aload_n 1, 1) := by decide +kernel
theorem dJ2_checkIndex_2214a_2 : decode cJ2_checkIndex_2214a 2 = .ok (.invokestatic 48, 3) := by decide +kernel
theorem dJ2_checkIndex_2214a_5 : decode cJ2_checkIndex_2214a 5 = .ok (.invokestatic 414, 3) := by decide +kernel
theorem dJ2_checkIndex_2214a_8 : decode cJ2_checkIndex_2214a 8 = .ok (.return_, 1) := by decide +kernel
theorem dJ3_checkIndex_8e157_0 : decode cJ3_checkIndex_8e157 0 = .ok (.iload_n 0, 1) := by decide +kernel
theorem dJ3_checkIndex_8e157_1 : decode cJ3_checkIndex_8e157 1 = .ok (.ifCond .lt 8, 3) := by decide +kernel
theorem dJ3_checkIndex_8e157_4 : decode cJ3_checkIndex_8e157 4 = .ok (.iload_n 0, 1) := by decide +kernel
theorem dJ3_checkIndex_8e157_5 : decode cJ3_checkIndex_8e157 5 = .ok (.iload_n 1, 1) := by decide +kernel
theorem dJ3_checkIndex_8e157_6 : decode cJ3_checkIndex_8e157 6 = .ok (.if_icmp .lt 10, 3) := by decide +kernel
theorem dJ3_checkIndex_8e157_9 : decode cJ3_checkIndex_8e157 9 = .ok (.aload_n 2, 1) := by decide +kernel
theorem dJ3_checkIndex_8e157_10 : decode cJ3_checkIndex_8e157 10 = .ok (.iload_n 0, 1) := by decide +kernel
theorem dJ3_checkIndex_8e157_11 : decode cJ3_checkIndex_8e157 11 = .ok (.iload_n 1, 1) := by decide +kernel
theorem dJ3_checkIndex_8e157_12 : decode cJ3_checkIndex_8e157 12 = .ok (.invokestatic 95, 3) := by decide +kernel
theorem dJ3_checkIndex_8e157_15 : decode cJ3_checkIndex_8e157 15 = .ok (.athrow, 1) := by decide +kernel
theorem dJ3_checkIndex_8e157_16 : decode cJ3_checkIndex_8e157 16 = .ok (.iload_n 0, 1) := by decide +kernel
theorem dJ3_checkIndex_8e157_17 : decode cJ3_checkIndex_8e157 17 = .ok (.ireturn, 1) := by decide +kernel
