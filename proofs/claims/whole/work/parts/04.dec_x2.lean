theorem d_X_branch_248 : decode b_X_branch 248 = .ok (.ifCond .eq 8, 3) := by decide +kernel
theorem d_X_branch_251 : decode b_X_branch 251 = .ok (.iload 11, 2) := by decide +kernel
theorem d_X_branch_253 : decode b_X_branch 253 = .ok (.goto 4, 3) := by decide +kernel
theorem d_X_branch_256 : decode b_X_branch 256 = .ok (.iconst (-1), 1) := by decide +kernel
theorem d_X_branch_257 : decode b_X_branch 257 = .ok (.putfield 48, 3) := by decide +kernel
theorem d_X_branch_260 : decode b_X_branch 260 = .ok (.iconst 0, 1) := by decide +kernel
theorem d_X_branch_261 : decode b_X_branch 261 = .ok (.ireturn, 1) := by decide +kernel
theorem d_X_saved_0 : decode b_X_saved 0 = .ok (.iload_n 1, 1) := by decide +kernel
theorem d_X_saved_1 : decode b_X_saved 1 = .ok (.tableswitch 107 0 5 #[39, 49, 60, 70, 81, 99], 39) := by decide +kernel
theorem d_X_saved_40 : decode b_X_saved 40 = .ok (.aload_n 0, 1) := by decide +kernel
theorem d_X_saved_41 : decode b_X_saved 41 = .ok (.getfield 7, 3) := by decide +kernel
theorem d_X_saved_44 : decode b_X_saved 44 = .ok (.iconst 5, 1) := by decide +kernel
theorem d_X_saved_45 : decode b_X_saved 45 = .ok (.iaload, 1) := by decide +kernel
theorem d_X_saved_46 : decode b_X_saved 46 = .ok (.bipush 32, 2) := by decide +kernel
theorem d_X_saved_48 : decode b_X_saved 48 = .ok (.irem, 1) := by decide +kernel
theorem d_X_saved_49 : decode b_X_saved 49 = .ok (.ireturn, 1) := by decide +kernel
theorem d_X_saved_50 : decode b_X_saved 50 = .ok (.aload_n 0, 1) := by decide +kernel
theorem d_X_saved_51 : decode b_X_saved 51 = .ok (.getfield 7, 3) := by decide +kernel
theorem d_X_saved_54 : decode b_X_saved 54 = .ok (.bipush 6, 2) := by decide +kernel
theorem d_X_saved_56 : decode b_X_saved 56 = .ok (.iaload, 1) := by decide +kernel
theorem d_X_saved_57 : decode b_X_saved 57 = .ok (.bipush 32, 2) := by decide +kernel
theorem d_X_saved_59 : decode b_X_saved 59 = .ok (.irem, 1) := by decide +kernel
theorem d_X_saved_60 : decode b_X_saved 60 = .ok (.ireturn, 1) := by decide +kernel
theorem d_X_saved_61 : decode b_X_saved 61 = .ok (.aload_n 0, 1) := by decide +kernel
theorem d_X_saved_62 : decode b_X_saved 62 = .ok (.getfield 7, 3) := by decide +kernel
theorem d_X_saved_65 : decode b_X_saved 65 = .ok (.iconst 5, 1) := by decide +kernel
theorem d_X_saved_66 : decode b_X_saved 66 = .ok (.iaload, 1) := by decide +kernel
theorem d_X_saved_67 : decode b_X_saved 67 = .ok (.bipush 32, 2) := by decide +kernel
theorem d_X_saved_69 : decode b_X_saved 69 = .ok (.idiv, 1) := by decide +kernel
theorem d_X_saved_70 : decode b_X_saved 70 = .ok (.ireturn, 1) := by decide +kernel
theorem d_X_saved_71 : decode b_X_saved 71 = .ok (.aload_n 0, 1) := by decide +kernel
theorem d_X_saved_72 : decode b_X_saved 72 = .ok (.getfield 7, 3) := by decide +kernel
theorem d_X_saved_75 : decode b_X_saved 75 = .ok (.bipush 6, 2) := by decide +kernel
theorem d_X_saved_77 : decode b_X_saved 77 = .ok (.iaload, 1) := by decide +kernel
theorem d_X_saved_78 : decode b_X_saved 78 = .ok (.bipush 32, 2) := by decide +kernel
theorem d_X_saved_80 : decode b_X_saved 80 = .ok (.idiv, 1) := by decide +kernel
theorem d_X_saved_81 : decode b_X_saved 81 = .ok (.ireturn, 1) := by decide +kernel
theorem d_X_saved_82 : decode b_X_saved 82 = .ok (.aload_n 0, 1) := by decide +kernel
theorem d_X_saved_83 : decode b_X_saved 83 = .ok (.getfield 7, 3) := by decide +kernel
theorem d_X_saved_86 : decode b_X_saved 86 = .ok (.bipush 7, 2) := by decide +kernel
theorem d_X_saved_88 : decode b_X_saved 88 = .ok (.iaload, 1) := by decide +kernel
theorem d_X_saved_89 : decode b_X_saved 89 = .ok (.iconst 2, 1) := by decide +kernel
theorem d_X_saved_90 : decode b_X_saved 90 = .ok (.aload_n 0, 1) := by decide +kernel
theorem d_X_saved_91 : decode b_X_saved 91 = .ok (.getfield 7, 3) := by decide +kernel
theorem d_X_saved_94 : decode b_X_saved 94 = .ok (.bipush 8, 2) := by decide +kernel
theorem d_X_saved_96 : decode b_X_saved 96 = .ok (.iaload, 1) := by decide +kernel
theorem d_X_saved_97 : decode b_X_saved 97 = .ok (.imul, 1) := by decide +kernel
theorem d_X_saved_98 : decode b_X_saved 98 = .ok (.iadd, 1) := by decide +kernel
theorem d_X_saved_99 : decode b_X_saved 99 = .ok (.ireturn, 1) := by decide +kernel
theorem d_X_saved_100 : decode b_X_saved 100 = .ok (.aload_n 0, 1) := by decide +kernel
theorem d_X_saved_101 : decode b_X_saved 101 = .ok (.getfield 7, 3) := by decide +kernel
theorem d_X_saved_104 : decode b_X_saved 104 = .ok (.bipush 9, 2) := by decide +kernel
theorem d_X_saved_106 : decode b_X_saved 106 = .ok (.iaload, 1) := by decide +kernel
theorem d_X_saved_107 : decode b_X_saved 107 = .ok (.ireturn, 1) := by decide +kernel
theorem d_X_saved_108 : decode b_X_saved 108 = .ok (.iconst 0, 1) := by decide +kernel
theorem d_X_saved_109 : decode b_X_saved 109 = .ok (.ireturn, 1) := by decide +kernel
theorem d_X_save_0 : decode b_X_save 0 = .ok (.iload_n 1, 1) := by decide +kernel
theorem d_X_save_1 : decode b_X_save 1 = .ok (.ifCond .ne 25, 3) := by decide +kernel
theorem d_X_save_4 : decode b_X_save 4 = .ok (.aload_n 0, 1) := by decide +kernel
theorem d_X_save_5 : decode b_X_save 5 = .ok (.getfield 7, 3) := by decide +kernel
theorem d_X_save_8 : decode b_X_save 8 = .ok (.iconst 5, 1) := by decide +kernel
theorem d_X_save_9 : decode b_X_save 9 = .ok (.aload_n 0, 1) := by decide +kernel
theorem d_X_save_10 : decode b_X_save 10 = .ok (.getfield 7, 3) := by decide +kernel
theorem d_X_save_13 : decode b_X_save 13 = .ok (.iconst 5, 1) := by decide +kernel
theorem d_X_save_14 : decode b_X_save 14 = .ok (.iaload, 1) := by decide +kernel
theorem d_X_save_15 : decode b_X_save 15 = .ok (.bipush 32, 2) := by decide +kernel
theorem d_X_save_17 : decode b_X_save 17 = .ok (.idiv, 1) := by decide +kernel
theorem d_X_save_18 : decode b_X_save 18 = .ok (.iload_n 2, 1) := by decide +kernel
theorem d_X_save_19 : decode b_X_save 19 = .ok (.invokestatic 22, 3) := by decide +kernel
theorem d_X_save_22 : decode b_X_save 22 = .ok (.iastore, 1) := by decide +kernel
theorem d_X_save_23 : decode b_X_save 23 = .ok (.goto 109, 3) := by decide +kernel
theorem d_X_save_26 : decode b_X_save 26 = .ok (.iload_n 1, 1) := by decide +kernel
theorem d_X_save_27 : decode b_X_save 27 = .ok (.iconst 1, 1) := by decide +kernel
theorem d_X_save_28 : decode b_X_save 28 = .ok (.if_icmp .ne 27, 3) := by decide +kernel
theorem d_X_save_31 : decode b_X_save 31 = .ok (.aload_n 0, 1) := by decide +kernel
theorem d_X_save_32 : decode b_X_save 32 = .ok (.getfield 7, 3) := by decide +kernel
theorem d_X_save_35 : decode b_X_save 35 = .ok (.bipush 6, 2) := by decide +kernel
theorem d_X_save_37 : decode b_X_save 37 = .ok (.aload_n 0, 1) := by decide +kernel
theorem d_X_save_38 : decode b_X_save 38 = .ok (.getfield 7, 3) := by decide +kernel
theorem d_X_save_41 : decode b_X_save 41 = .ok (.bipush 6, 2) := by decide +kernel
theorem d_X_save_43 : decode b_X_save 43 = .ok (.iaload, 1) := by decide +kernel
theorem d_X_save_44 : decode b_X_save 44 = .ok (.bipush 32, 2) := by decide +kernel
theorem d_X_save_46 : decode b_X_save 46 = .ok (.idiv, 1) := by decide +kernel
theorem d_X_save_47 : decode b_X_save 47 = .ok (.iload_n 2, 1) := by decide +kernel
theorem d_X_save_48 : decode b_X_save 48 = .ok (.invokestatic 22, 3) := by decide +kernel
theorem d_X_save_51 : decode b_X_save 51 = .ok (.iastore, 1) := by decide +kernel
theorem d_X_save_52 : decode b_X_save 52 = .ok (.goto 80, 3) := by decide +kernel
theorem d_X_save_55 : decode b_X_save 55 = .ok (.iload_n 1, 1) := by decide +kernel
theorem d_X_save_56 : decode b_X_save 56 = .ok (.iconst 2, 1) := by decide +kernel
theorem d_X_save_57 : decode b_X_save 57 = .ok (.if_icmp .ne 22, 3) := by decide +kernel
theorem d_X_save_60 : decode b_X_save 60 = .ok (.aload_n 0, 1) := by decide +kernel
theorem d_X_save_61 : decode b_X_save 61 = .ok (.getfield 7, 3) := by decide +kernel
theorem d_X_save_64 : decode b_X_save 64 = .ok (.iconst 5, 1) := by decide +kernel
theorem d_X_save_65 : decode b_X_save 65 = .ok (.iload_n 2, 1) := by decide +kernel
theorem d_X_save_66 : decode b_X_save 66 = .ok (.aload_n 0, 1) := by decide +kernel
theorem d_X_save_67 : decode b_X_save 67 = .ok (.getfield 7, 3) := by decide +kernel
theorem d_X_save_70 : decode b_X_save 70 = .ok (.iconst 5, 1) := by decide +kernel
theorem d_X_save_71 : decode b_X_save 71 = .ok (.iaload, 1) := by decide +kernel
theorem d_X_save_72 : decode b_X_save 72 = .ok (.invokestatic 22, 3) := by decide +kernel
theorem d_X_save_75 : decode b_X_save 75 = .ok (.iastore, 1) := by decide +kernel
theorem d_X_save_76 : decode b_X_save 76 = .ok (.goto 56, 3) := by decide +kernel
theorem d_X_save_79 : decode b_X_save 79 = .ok (.iload_n 1, 1) := by decide +kernel
theorem d_X_save_80 : decode b_X_save 80 = .ok (.iconst 3, 1) := by decide +kernel
theorem d_X_save_81 : decode b_X_save 81 = .ok (.if_icmp .ne 24, 3) := by decide +kernel
theorem d_X_save_84 : decode b_X_save 84 = .ok (.aload_n 0, 1) := by decide +kernel
theorem d_X_save_85 : decode b_X_save 85 = .ok (.getfield 7, 3) := by decide +kernel
theorem d_X_save_88 : decode b_X_save 88 = .ok (.bipush 6, 2) := by decide +kernel
theorem d_X_save_90 : decode b_X_save 90 = .ok (.iload_n 2, 1) := by decide +kernel
theorem d_X_save_91 : decode b_X_save 91 = .ok (.aload_n 0, 1) := by decide +kernel
theorem d_X_save_92 : decode b_X_save 92 = .ok (.getfield 7, 3) := by decide +kernel
theorem d_X_save_95 : decode b_X_save 95 = .ok (.bipush 6, 2) := by decide +kernel
theorem d_X_save_97 : decode b_X_save 97 = .ok (.iaload, 1) := by decide +kernel
theorem d_X_save_98 : decode b_X_save 98 = .ok (.invokestatic 22, 3) := by decide +kernel
theorem d_X_save_101 : decode b_X_save 101 = .ok (.iastore, 1) := by decide +kernel
theorem d_X_save_102 : decode b_X_save 102 = .ok (.goto 30, 3) := by decide +kernel
theorem d_X_save_105 : decode b_X_save 105 = .ok (.iload_n 1, 1) := by decide +kernel
theorem d_X_save_106 : decode b_X_save 106 = .ok (.iconst 4, 1) := by decide +kernel
theorem d_X_save_107 : decode b_X_save 107 = .ok (.if_icmp .ne 25, 3) := by decide +kernel
theorem d_X_save_110 : decode b_X_save 110 = .ok (.aload_n 0, 1) := by decide +kernel
theorem d_X_save_111 : decode b_X_save 111 = .ok (.getfield 7, 3) := by decide +kernel
theorem d_X_save_114 : decode b_X_save 114 = .ok (.bipush 7, 2) := by decide +kernel
theorem d_X_save_116 : decode b_X_save 116 = .ok (.iload_n 2, 1) := by decide +kernel
theorem d_X_save_117 : decode b_X_save 117 = .ok (.iconst 1, 1) := by decide +kernel
theorem d_X_save_118 : decode b_X_save 118 = .ok (.iand, 1) := by decide +kernel
theorem d_X_save_119 : decode b_X_save 119 = .ok (.iastore, 1) := by decide +kernel
theorem d_X_save_120 : decode b_X_save 120 = .ok (.aload_n 0, 1) := by decide +kernel
theorem d_X_save_121 : decode b_X_save 121 = .ok (.getfield 7, 3) := by decide +kernel
theorem d_X_save_124 : decode b_X_save 124 = .ok (.bipush 8, 2) := by decide +kernel
theorem d_X_save_126 : decode b_X_save 126 = .ok (.iload_n 2, 1) := by decide +kernel
theorem d_X_save_127 : decode b_X_save 127 = .ok (.iconst 1, 1) := by decide +kernel
theorem d_X_save_128 : decode b_X_save 128 = .ok (.ishr, 1) := by decide +kernel
theorem d_X_save_129 : decode b_X_save 129 = .ok (.iconst 1, 1) := by decide +kernel
theorem d_X_save_130 : decode b_X_save 130 = .ok (.iand, 1) := by decide +kernel
theorem d_X_save_131 : decode b_X_save 131 = .ok (.iastore, 1) := by decide +kernel
theorem d_X_save_132 : decode b_X_save 132 = .ok (.return_, 1) := by decide +kernel
theorem d_X_comeBack_0 : decode b_X_comeBack 0 = .ok (.aload_n 0, 1) := by decide +kernel
theorem d_X_comeBack_1 : decode b_X_comeBack 1 = .ok (.getfield 7, 3) := by decide +kernel
theorem d_X_comeBack_4 : decode b_X_comeBack 4 = .ok (.iconst 0, 1) := by decide +kernel
theorem d_X_comeBack_5 : decode b_X_comeBack 5 = .ok (.aload_n 0, 1) := by decide +kernel
theorem d_X_comeBack_6 : decode b_X_comeBack 6 = .ok (.getfield 7, 3) := by decide +kernel
theorem d_X_comeBack_9 : decode b_X_comeBack 9 = .ok (.iconst 5, 1) := by decide +kernel
theorem d_X_comeBack_10 : decode b_X_comeBack 10 = .ok (.iaload, 1) := by decide +kernel
theorem d_X_comeBack_11 : decode b_X_comeBack 11 = .ok (.iastore, 1) := by decide +kernel
theorem d_X_comeBack_12 : decode b_X_comeBack 12 = .ok (.aload_n 0, 1) := by decide +kernel
theorem d_X_comeBack_13 : decode b_X_comeBack 13 = .ok (.getfield 7, 3) := by decide +kernel
theorem d_X_comeBack_16 : decode b_X_comeBack 16 = .ok (.iconst 1, 1) := by decide +kernel
theorem d_X_comeBack_17 : decode b_X_comeBack 17 = .ok (.aload_n 0, 1) := by decide +kernel
theorem d_X_comeBack_18 : decode b_X_comeBack 18 = .ok (.getfield 7, 3) := by decide +kernel
theorem d_X_comeBack_21 : decode b_X_comeBack 21 = .ok (.bipush 6, 2) := by decide +kernel
theorem d_X_comeBack_23 : decode b_X_comeBack 23 = .ok (.iaload, 1) := by decide +kernel
theorem d_X_comeBack_24 : decode b_X_comeBack 24 = .ok (.iastore, 1) := by decide +kernel
theorem d_X_comeBack_25 : decode b_X_comeBack 25 = .ok (.aload_n 0, 1) := by decide +kernel
theorem d_X_comeBack_26 : decode b_X_comeBack 26 = .ok (.getfield 7, 3) := by decide +kernel
theorem d_X_comeBack_29 : decode b_X_comeBack 29 = .ok (.iconst 2, 1) := by decide +kernel
theorem d_X_comeBack_30 : decode b_X_comeBack 30 = .ok (.aload_n 0, 1) := by decide +kernel
theorem d_X_comeBack_31 : decode b_X_comeBack 31 = .ok (.getfield 7, 3) := by decide +kernel
theorem d_X_comeBack_34 : decode b_X_comeBack 34 = .ok (.bipush 7, 2) := by decide +kernel
theorem d_X_comeBack_36 : decode b_X_comeBack 36 = .ok (.iaload, 1) := by decide +kernel
theorem d_X_comeBack_37 : decode b_X_comeBack 37 = .ok (.iastore, 1) := by decide +kernel
theorem d_X_comeBack_38 : decode b_X_comeBack 38 = .ok (.aload_n 0, 1) := by decide +kernel
theorem d_X_comeBack_39 : decode b_X_comeBack 39 = .ok (.getfield 7, 3) := by decide +kernel
theorem d_X_comeBack_42 : decode b_X_comeBack 42 = .ok (.iconst 3, 1) := by decide +kernel
theorem d_X_comeBack_43 : decode b_X_comeBack 43 = .ok (.aload_n 0, 1) := by decide +kernel
theorem d_X_comeBack_44 : decode b_X_comeBack 44 = .ok (.getfield 7, 3) := by decide +kernel
theorem d_X_comeBack_47 : decode b_X_comeBack 47 = .ok (.bipush 8, 2) := by decide +kernel
theorem d_X_comeBack_49 : decode b_X_comeBack 49 = .ok (.iaload, 1) := by decide +kernel
theorem d_X_comeBack_50 : decode b_X_comeBack 50 = .ok (.iastore, 1) := by decide +kernel
theorem d_X_comeBack_51 : decode b_X_comeBack 51 = .ok (.aload_n 0, 1) := by decide +kernel
theorem d_X_comeBack_52 : decode b_X_comeBack 52 = .ok (.iconst 1, 1) := by decide +kernel
theorem d_X_comeBack_53 : decode b_X_comeBack 53 = .ok (.putfield 52, 3) := by decide +kernel
theorem d_X_comeBack_56 : decode b_X_comeBack 56 = .ok (.return_, 1) := by decide +kernel
theorem d_X_manage_0 : decode b_X_manage 0 = .ok (.iload_n 1, 1) := by decide +kernel
theorem d_X_manage_1 : decode b_X_manage 1 = .ok (.bipush 24, 2) := by decide +kernel
theorem d_X_manage_3 : decode b_X_manage 3 = .ok (.iushr, 1) := by decide +kernel
theorem d_X_manage_4 : decode b_X_manage 4 = .ok (.bipush 7, 2) := by decide +kernel
theorem d_X_manage_6 : decode b_X_manage 6 = .ok (.iand, 1) := by decide +kernel
theorem d_X_manage_7 : decode b_X_manage 7 = .ok (.istore 5, 2) := by decide +kernel
theorem d_X_manage_9 : decode b_X_manage 9 = .ok (.bipush 18, 2) := by decide +kernel
theorem d_X_manage_11 : decode b_X_manage 11 = .ok (.iload_n 1, 1) := by decide +kernel
theorem d_X_manage_12 : decode b_X_manage 12 = .ok (.bipush 18, 2) := by decide +kernel
theorem d_X_manage_14 : decode b_X_manage 14 = .ok (.iushr, 1) := by decide +kernel
theorem d_X_manage_15 : decode b_X_manage 15 = .ok (.iconst 3, 1) := by decide +kernel
theorem d_X_manage_16 : decode b_X_manage 16 = .ok (.iand, 1) := by decide +kernel
theorem d_X_manage_17 : decode b_X_manage 17 = .ok (.iadd, 1) := by decide +kernel
theorem d_X_manage_18 : decode b_X_manage 18 = .ok (.istore 6, 2) := by decide +kernel
theorem d_X_manage_20 : decode b_X_manage 20 = .ok (.iload_n 2, 1) := by decide +kernel
theorem d_X_manage_21 : decode b_X_manage 21 = .ok (.tableswitch 121 18 23 #[39, 51, 66, 92, 98, 112], 39) := by decide +kernel
theorem d_X_manage_60 : decode b_X_manage 60 = .ok (.aload_n 0, 1) := by decide +kernel
theorem d_X_manage_61 : decode b_X_manage 61 = .ok (.getfield 7, 3) := by decide +kernel
theorem d_X_manage_64 : decode b_X_manage 64 = .ok (.iload 6, 2) := by decide +kernel
theorem d_X_manage_66 : decode b_X_manage 66 = .ok (.iload_n 3, 1) := by decide +kernel
theorem d_X_manage_67 : decode b_X_manage 67 = .ok (.iconst 3, 1) := by decide +kernel
theorem d_X_manage_68 : decode b_X_manage 68 = .ok (.iand, 1) := by decide +kernel
theorem d_X_manage_69 : decode b_X_manage 69 = .ok (.iastore, 1) := by decide +kernel
theorem d_X_manage_70 : decode b_X_manage 70 = .ok (.iconst 0, 1) := by decide +kernel
theorem d_X_manage_71 : decode b_X_manage 71 = .ok (.ireturn, 1) := by decide +kernel
theorem d_X_manage_72 : decode b_X_manage 72 = .ok (.aload_n 0, 1) := by decide +kernel
theorem d_X_manage_73 : decode b_X_manage 73 = .ok (.iload 5, 2) := by decide +kernel
theorem d_X_manage_75 : decode b_X_manage 75 = .ok (.aload_n 0, 1) := by decide +kernel
theorem d_X_manage_76 : decode b_X_manage 76 = .ok (.getfield 7, 3) := by decide +kernel
theorem d_X_manage_79 : decode b_X_manage 79 = .ok (.iload 6, 2) := by decide +kernel
theorem d_X_manage_81 : decode b_X_manage 81 = .ok (.iaload, 1) := by decide +kernel
theorem d_X_manage_82 : decode b_X_manage 82 = .ok (.invokevirtual 36, 3) := by decide +kernel
theorem d_X_manage_85 : decode b_X_manage 85 = .ok (.iconst 0, 1) := by decide +kernel
theorem d_X_manage_86 : decode b_X_manage 86 = .ok (.ireturn, 1) := by decide +kernel
theorem d_X_manage_87 : decode b_X_manage 87 = .ok (.aload_n 0, 1) := by decide +kernel
theorem d_X_manage_88 : decode b_X_manage 88 = .ok (.iload 5, 2) := by decide +kernel
theorem d_X_manage_90 : decode b_X_manage 90 = .ok (.aload_n 0, 1) := by decide +kernel
theorem d_X_manage_91 : decode b_X_manage 91 = .ok (.getfield 7, 3) := by decide +kernel
theorem d_X_manage_94 : decode b_X_manage 94 = .ok (.iconst 3, 1) := by decide +kernel
theorem d_X_manage_95 : decode b_X_manage 95 = .ok (.iaload, 1) := by decide +kernel
theorem d_X_manage_96 : decode b_X_manage 96 = .ok (.invokevirtual 36, 3) := by decide +kernel
theorem d_X_manage_99 : decode b_X_manage 99 = .ok (.aload_n 0, 1) := by decide +kernel
theorem d_X_manage_100 : decode b_X_manage 100 = .ok (.getfield 7, 3) := by decide +kernel
theorem d_X_manage_103 : decode b_X_manage 103 = .ok (.iconst 3, 1) := by decide +kernel
theorem d_X_manage_104 : decode b_X_manage 104 = .ok (.iload_n 1, 1) := by decide +kernel
theorem d_X_manage_105 : decode b_X_manage 105 = .ok (.bipush 14, 2) := by decide +kernel
theorem d_X_manage_107 : decode b_X_manage 107 = .ok (.iushr, 1) := by decide +kernel
theorem d_X_manage_108 : decode b_X_manage 108 = .ok (.iconst 1, 1) := by decide +kernel
theorem d_X_manage_109 : decode b_X_manage 109 = .ok (.iand, 1) := by decide +kernel
theorem d_X_manage_110 : decode b_X_manage 110 = .ok (.iastore, 1) := by decide +kernel
theorem d_X_manage_111 : decode b_X_manage 111 = .ok (.iconst 0, 1) := by decide +kernel
theorem d_X_manage_112 : decode b_X_manage 112 = .ok (.ireturn, 1) := by decide +kernel
theorem d_X_manage_113 : decode b_X_manage 113 = .ok (.aload_n 0, 1) := by decide +kernel
theorem d_X_manage_114 : decode b_X_manage 114 = .ok (.invokevirtual 55, 3) := by decide +kernel
theorem d_X_manage_117 : decode b_X_manage 117 = .ok (.iconst 0, 1) := by decide +kernel
theorem d_X_manage_118 : decode b_X_manage 118 = .ok (.ireturn, 1) := by decide +kernel
theorem d_X_manage_119 : decode b_X_manage 119 = .ok (.aload_n 0, 1) := by decide +kernel
theorem d_X_manage_120 : decode b_X_manage 120 = .ok (.iload 5, 2) := by decide +kernel
theorem d_X_manage_122 : decode b_X_manage 122 = .ok (.aload_n 0, 1) := by decide +kernel
theorem d_X_manage_123 : decode b_X_manage 123 = .ok (.iload 4, 2) := by decide +kernel
theorem d_X_manage_125 : decode b_X_manage 125 = .ok (.invokevirtual 58, 3) := by decide +kernel
theorem d_X_manage_128 : decode b_X_manage 128 = .ok (.invokevirtual 36, 3) := by decide +kernel
theorem d_X_manage_131 : decode b_X_manage 131 = .ok (.iconst 0, 1) := by decide +kernel
theorem d_X_manage_132 : decode b_X_manage 132 = .ok (.ireturn, 1) := by decide +kernel
theorem d_X_manage_133 : decode b_X_manage 133 = .ok (.aload_n 0, 1) := by decide +kernel
theorem d_X_manage_134 : decode b_X_manage 134 = .ok (.iload 4, 2) := by decide +kernel
theorem d_X_manage_136 : decode b_X_manage 136 = .ok (.iload_n 3, 1) := by decide +kernel
theorem d_X_manage_137 : decode b_X_manage 137 = .ok (.invokevirtual 61, 3) := by decide +kernel
theorem d_X_manage_140 : decode b_X_manage 140 = .ok (.iconst 0, 1) := by decide +kernel
theorem d_X_manage_141 : decode b_X_manage 141 = .ok (.ireturn, 1) := by decide +kernel
theorem d_X_manage_142 : decode b_X_manage 142 = .ok (.iload_n 2, 1) := by decide +kernel
theorem d_X_manage_143 : decode b_X_manage 143 = .ok (.bipush 24, 2) := by decide +kernel
theorem d_X_manage_145 : decode b_X_manage 145 = .ok (.if_icmp .ne 7, 3) := by decide +kernel
theorem d_X_manage_148 : decode b_X_manage 148 = .ok (.iconst 4, 1) := by decide +kernel
theorem d_X_manage_149 : decode b_X_manage 149 = .ok (.goto 4, 3) := by decide +kernel
theorem d_X_manage_152 : decode b_X_manage 152 = .ok (.iconst 5, 1) := by decide +kernel
theorem d_X_manage_153 : decode b_X_manage 153 = .ok (.ireturn, 1) := by decide +kernel
theorem d_X_instruct_0 : decode b_X_instruct 0 = .ok (.aload_n 0, 1) := by decide +kernel
theorem d_X_instruct_1 : decode b_X_instruct 1 = .ok (.getfield 16, 3) := by decide +kernel
theorem d_X_instruct_4 : decode b_X_instruct 4 = .ok (.aload_n 0, 1) := by decide +kernel
theorem d_X_instruct_5 : decode b_X_instruct 5 = .ok (.getfield 7, 3) := by decide +kernel
theorem d_X_instruct_8 : decode b_X_instruct 8 = .ok (.iconst 0, 1) := by decide +kernel
theorem d_X_instruct_9 : decode b_X_instruct 9 = .ok (.iaload, 1) := by decide +kernel
theorem d_X_instruct_10 : decode b_X_instruct 10 = .ok (.iaload, 1) := by decide +kernel
theorem d_X_instruct_11 : decode b_X_instruct 11 = .ok (.istore_n 1, 1) := by decide +kernel
theorem d_X_instruct_12 : decode b_X_instruct 12 = .ok (.iload_n 1, 1) := by decide +kernel
theorem d_X_instruct_13 : decode b_X_instruct 13 = .ok (.bipush 27, 2) := by decide +kernel
theorem d_X_instruct_15 : decode b_X_instruct 15 = .ok (.iushr, 1) := by decide +kernel
theorem d_X_instruct_16 : decode b_X_instruct 16 = .ok (.istore_n 2, 1) := by decide +kernel
theorem d_X_instruct_17 : decode b_X_instruct 17 = .ok (.aload_n 0, 1) := by decide +kernel
theorem d_X_instruct_18 : decode b_X_instruct 18 = .ok (.getfield 7, 3) := by decide +kernel
theorem d_X_instruct_21 : decode b_X_instruct 21 = .ok (.bipush 10, 2) := by decide +kernel
theorem d_X_instruct_23 : decode b_X_instruct 23 = .ok (.iload_n 1, 1) := by decide +kernel
theorem d_X_instruct_24 : decode b_X_instruct 24 = .ok (.bipush 21, 2) := by decide +kernel
theorem d_X_instruct_26 : decode b_X_instruct 26 = .ok (.iushr, 1) := by decide +kernel
theorem d_X_instruct_27 : decode b_X_instruct 27 = .ok (.bipush 7, 2) := by decide +kernel
theorem d_X_instruct_29 : decode b_X_instruct 29 = .ok (.iand, 1) := by decide +kernel
theorem d_X_instruct_30 : decode b_X_instruct 30 = .ok (.iadd, 1) := by decide +kernel
theorem d_X_instruct_31 : decode b_X_instruct 31 = .ok (.iaload, 1) := by decide +kernel
theorem d_X_instruct_32 : decode b_X_instruct 32 = .ok (.istore_n 3, 1) := by decide +kernel
theorem d_X_instruct_33 : decode b_X_instruct 33 = .ok (.aload_n 0, 1) := by decide +kernel
theorem d_X_instruct_34 : decode b_X_instruct 34 = .ok (.getfield 7, 3) := by decide +kernel
theorem d_X_instruct_37 : decode b_X_instruct 37 = .ok (.bipush 10, 2) := by decide +kernel
theorem d_X_instruct_39 : decode b_X_instruct 39 = .ok (.iload_n 1, 1) := by decide +kernel
theorem d_X_instruct_40 : decode b_X_instruct 40 = .ok (.bipush 18, 2) := by decide +kernel
theorem d_X_instruct_42 : decode b_X_instruct 42 = .ok (.iushr, 1) := by decide +kernel
theorem d_X_instruct_43 : decode b_X_instruct 43 = .ok (.bipush 7, 2) := by decide +kernel
theorem d_X_instruct_45 : decode b_X_instruct 45 = .ok (.iand, 1) := by decide +kernel
theorem d_X_instruct_46 : decode b_X_instruct 46 = .ok (.iadd, 1) := by decide +kernel
theorem d_X_instruct_47 : decode b_X_instruct 47 = .ok (.iaload, 1) := by decide +kernel
theorem d_X_instruct_48 : decode b_X_instruct 48 = .ok (.istore 4, 2) := by decide +kernel
theorem d_X_instruct_50 : decode b_X_instruct 50 = .ok (.iload_n 1, 1) := by decide +kernel
theorem d_X_instruct_51 : decode b_X_instruct 51 = .ok (.bipush 18, 2) := by decide +kernel
theorem d_X_instruct_53 : decode b_X_instruct 53 = .ok (.ishl, 1) := by decide +kernel
theorem d_X_instruct_54 : decode b_X_instruct 54 = .ok (.bipush 18, 2) := by decide +kernel
theorem d_X_instruct_56 : decode b_X_instruct 56 = .ok (.ishr, 1) := by decide +kernel
theorem d_X_instruct_57 : decode b_X_instruct 57 = .ok (.istore 5, 2) := by decide +kernel
theorem d_X_instruct_59 : decode b_X_instruct 59 = .ok (.aload_n 0, 1) := by decide +kernel
theorem d_X_instruct_60 : decode b_X_instruct 60 = .ok (.iconst 0, 1) := by decide +kernel
theorem d_X_instruct_61 : decode b_X_instruct 61 = .ok (.putfield 44, 3) := by decide +kernel
theorem d_X_instruct_64 : decode b_X_instruct 64 = .ok (.aload_n 0, 1) := by decide +kernel
theorem d_X_instruct_65 : decode b_X_instruct 65 = .ok (.iconst (-1), 1) := by decide +kernel
theorem d_X_instruct_66 : decode b_X_instruct 66 = .ok (.putfield 48, 3) := by decide +kernel
theorem d_X_instruct_69 : decode b_X_instruct 69 = .ok (.aload_n 0, 1) := by decide +kernel
theorem d_X_instruct_70 : decode b_X_instruct 70 = .ok (.iconst 0, 1) := by decide +kernel
theorem d_X_instruct_71 : decode b_X_instruct 71 = .ok (.putfield 52, 3) := by decide +kernel
theorem d_X_instruct_74 : decode b_X_instruct 74 = .ok (.iload_n 2, 1) := by decide +kernel
theorem d_X_instruct_75 : decode b_X_instruct 75 = .ok (.bipush 11, 2) := by decide +kernel
theorem d_X_instruct_77 : decode b_X_instruct 77 = .ok (.if_icmp .ge 17, 3) := by decide +kernel
theorem d_X_instruct_80 : decode b_X_instruct 80 = .ok (.aload_n 0, 1) := by decide +kernel
theorem d_X_instruct_81 : decode b_X_instruct 81 = .ok (.iload_n 1, 1) := by decide +kernel
theorem d_X_instruct_82 : decode b_X_instruct 82 = .ok (.iload_n 2, 1) := by decide +kernel
theorem d_X_instruct_83 : decode b_X_instruct 83 = .ok (.iload_n 3, 1) := by decide +kernel
theorem d_X_instruct_84 : decode b_X_instruct 84 = .ok (.iload 4, 2) := by decide +kernel
theorem d_X_instruct_86 : decode b_X_instruct 86 = .ok (.iload 5, 2) := by decide +kernel
theorem d_X_instruct_88 : decode b_X_instruct 88 = .ok (.invokevirtual 64, 3) := by decide +kernel
theorem d_X_instruct_91 : decode b_X_instruct 91 = .ok (.goto 65, 3) := by decide +kernel
theorem d_X_instruct_94 : decode b_X_instruct 94 = .ok (.iload_n 2, 1) := by decide +kernel
theorem d_X_instruct_95 : decode b_X_instruct 95 = .ok (.bipush 13, 2) := by decide +kernel
theorem d_X_instruct_97 : decode b_X_instruct 97 = .ok (.if_icmp .ge 30, 3) := by decide +kernel
theorem d_X_instruct_100 : decode b_X_instruct 100 = .ok (.aload_n 0, 1) := by decide +kernel
theorem d_X_instruct_101 : decode b_X_instruct 101 = .ok (.iload_n 1, 1) := by decide +kernel
theorem d_X_instruct_102 : decode b_X_instruct 102 = .ok (.iload_n 2, 1) := by decide +kernel
theorem d_X_instruct_103 : decode b_X_instruct 103 = .ok (.iload_n 3, 1) := by decide +kernel
theorem d_X_instruct_104 : decode b_X_instruct 104 = .ok (.iload 5, 2) := by decide +kernel
theorem d_X_instruct_106 : decode b_X_instruct 106 = .ok (.iadd, 1) := by decide +kernel
theorem d_X_instruct_107 : decode b_X_instruct 107 = .ok (.aload_n 0, 1) := by decide +kernel
theorem d_X_instruct_108 : decode b_X_instruct 108 = .ok (.getfield 7, 3) := by decide +kernel
theorem d_X_instruct_111 : decode b_X_instruct 111 = .ok (.bipush 18, 2) := by decide +kernel
theorem d_X_instruct_113 : decode b_X_instruct 113 = .ok (.iload_n 1, 1) := by decide +kernel
theorem d_X_instruct_114 : decode b_X_instruct 114 = .ok (.bipush 18, 2) := by decide +kernel
theorem d_X_instruct_116 : decode b_X_instruct 116 = .ok (.iushr, 1) := by decide +kernel
theorem d_X_instruct_117 : decode b_X_instruct 117 = .ok (.iconst 3, 1) := by decide +kernel
theorem d_X_instruct_118 : decode b_X_instruct 118 = .ok (.iand, 1) := by decide +kernel
theorem d_X_instruct_119 : decode b_X_instruct 119 = .ok (.iadd, 1) := by decide +kernel
theorem d_X_instruct_120 : decode b_X_instruct 120 = .ok (.iaload, 1) := by decide +kernel
theorem d_X_instruct_121 : decode b_X_instruct 121 = .ok (.invokevirtual 68, 3) := by decide +kernel
theorem d_X_instruct_124 : decode b_X_instruct 124 = .ok (.goto 32, 3) := by decide +kernel
theorem d_X_instruct_127 : decode b_X_instruct 127 = .ok (.iload_n 2, 1) := by decide +kernel
theorem d_X_instruct_128 : decode b_X_instruct 128 = .ok (.bipush 18, 2) := by decide +kernel
theorem d_X_instruct_130 : decode b_X_instruct 130 = .ok (.if_icmp .ge 17, 3) := by decide +kernel
theorem d_X_instruct_133 : decode b_X_instruct 133 = .ok (.aload_n 0, 1) := by decide +kernel
theorem d_X_instruct_134 : decode b_X_instruct 134 = .ok (.iload_n 1, 1) := by decide +kernel
theorem d_X_instruct_135 : decode b_X_instruct 135 = .ok (.iload_n 2, 1) := by decide +kernel
theorem d_X_instruct_136 : decode b_X_instruct 136 = .ok (.iload_n 3, 1) := by decide +kernel
theorem d_X_instruct_137 : decode b_X_instruct 137 = .ok (.iload 4, 2) := by decide +kernel
theorem d_X_instruct_139 : decode b_X_instruct 139 = .ok (.iload 5, 2) := by decide +kernel
theorem d_X_instruct_141 : decode b_X_instruct 141 = .ok (.invokevirtual 72, 3) := by decide +kernel
theorem d_X_instruct_144 : decode b_X_instruct 144 = .ok (.goto 12, 3) := by decide +kernel
theorem d_X_instruct_147 : decode b_X_instruct 147 = .ok (.aload_n 0, 1) := by decide +kernel
theorem d_X_instruct_148 : decode b_X_instruct 148 = .ok (.iload_n 1, 1) := by decide +kernel
theorem d_X_instruct_149 : decode b_X_instruct 149 = .ok (.iload_n 2, 1) := by decide +kernel
theorem d_X_instruct_150 : decode b_X_instruct 150 = .ok (.iload_n 3, 1) := by decide +kernel
theorem d_X_instruct_151 : decode b_X_instruct 151 = .ok (.iload 5, 2) := by decide +kernel
theorem d_X_instruct_153 : decode b_X_instruct 153 = .ok (.invokevirtual 75, 3) := by decide +kernel
theorem d_X_instruct_156 : decode b_X_instruct 156 = .ok (.istore 6, 2) := by decide +kernel
theorem d_X_instruct_158 : decode b_X_instruct 158 = .ok (.iload 6, 2) := by decide +kernel
theorem d_X_instruct_160 : decode b_X_instruct 160 = .ok (.ifCond .le 12, 3) := by decide +kernel
theorem d_X_instruct_163 : decode b_X_instruct 163 = .ok (.aload_n 0, 1) := by decide +kernel
theorem d_X_instruct_164 : decode b_X_instruct 164 = .ok (.iload 6, 2) := by decide +kernel
theorem d_X_instruct_166 : decode b_X_instruct 166 = .ok (.invokevirtual 78, 3) := by decide +kernel
theorem d_X_instruct_169 : decode b_X_instruct 169 = .ok (.goto 36, 3) := by decide +kernel
theorem d_X_instruct_172 : decode b_X_instruct 172 = .ok (.aload_n 0, 1) := by decide +kernel
theorem d_X_instruct_173 : decode b_X_instruct 173 = .ok (.getfield 52, 3) := by decide +kernel
theorem d_X_instruct_176 : decode b_X_instruct 176 = .ok (.ifCond .ne 29, 3) := by decide +kernel
theorem d_X_instruct_179 : decode b_X_instruct 179 = .ok (.aload_n 0, 1) := by decide +kernel
theorem d_X_instruct_180 : decode b_X_instruct 180 = .ok (.aload_n 0, 1) := by decide +kernel
theorem d_X_instruct_181 : decode b_X_instruct 181 = .ok (.getfield 48, 3) := by decide +kernel
theorem d_X_instruct_184 : decode b_X_instruct 184 = .ok (.invokevirtual 82, 3) := by decide +kernel
theorem d_X_instruct_187 : decode b_X_instruct 187 = .ok (.aload_n 0, 1) := by decide +kernel
theorem d_X_instruct_188 : decode b_X_instruct 188 = .ok (.getfield 7, 3) := by decide +kernel
theorem d_X_instruct_191 : decode b_X_instruct 191 = .ok (.iconst 2, 1) := by decide +kernel
theorem d_X_instruct_192 : decode b_X_instruct 192 = .ok (.aload_n 0, 1) := by decide +kernel
theorem d_X_instruct_193 : decode b_X_instruct 193 = .ok (.getfield 44, 3) := by decide +kernel
theorem d_X_instruct_196 : decode b_X_instruct 196 = .ok (.ifCond .eq 7, 3) := by decide +kernel
theorem d_X_instruct_199 : decode b_X_instruct 199 = .ok (.iconst 1, 1) := by decide +kernel
theorem d_X_instruct_200 : decode b_X_instruct 200 = .ok (.goto 4, 3) := by decide +kernel
theorem d_X_instruct_203 : decode b_X_instruct 203 = .ok (.iconst 0, 1) := by decide +kernel
theorem d_X_instruct_204 : decode b_X_instruct 204 = .ok (.iastore, 1) := by decide +kernel
theorem d_X_instruct_205 : decode b_X_instruct 205 = .ok (.return_, 1) := by decide +kernel
theorem d_X_step_0 : decode b_X_step 0 = .ok (.aload_n 0, 1) := by decide +kernel
theorem d_X_step_1 : decode b_X_step 1 = .ok (.getfield 19, 3) := by decide +kernel
theorem d_X_step_4 : decode b_X_step 4 = .ok (.iconst 0, 1) := by decide +kernel
theorem d_X_step_5 : decode b_X_step 5 = .ok (.aload_n 0, 1) := by decide +kernel
theorem d_X_step_6 : decode b_X_step 6 = .ok (.getfield 19, 3) := by decide +kernel
theorem d_X_step_9 : decode b_X_step 9 = .ok (.iconst 0, 1) := by decide +kernel
theorem d_X_step_10 : decode b_X_step 10 = .ok (.iaload, 1) := by decide +kernel
theorem d_X_step_11 : decode b_X_step 11 = .ok (.iconst 1, 1) := by decide +kernel
theorem d_X_step_12 : decode b_X_step 12 = .ok (.iadd, 1) := by decide +kernel
theorem d_X_step_13 : decode b_X_step 13 = .ok (.iastore, 1) := by decide +kernel
theorem d_X_step_14 : decode b_X_step 14 = .ok (.aload_n 0, 1) := by decide +kernel
theorem d_X_step_15 : decode b_X_step 15 = .ok (.getfield 7, 3) := by decide +kernel
theorem d_X_step_18 : decode b_X_step 18 = .ok (.iconst 4, 1) := by decide +kernel
theorem d_X_step_19 : decode b_X_step 19 = .ok (.iaload, 1) := by decide +kernel
theorem d_X_step_20 : decode b_X_step 20 = .ok (.iconst 1, 1) := by decide +kernel
theorem d_X_step_21 : decode b_X_step 21 = .ok (.if_icmp .ne 28, 3) := by decide +kernel
theorem d_X_step_24 : decode b_X_step 24 = .ok (.aload_n 0, 1) := by decide +kernel
theorem d_X_step_25 : decode b_X_step 25 = .ok (.getfield 7, 3) := by decide +kernel
theorem d_X_step_28 : decode b_X_step 28 = .ok (.iconst 3, 1) := by decide +kernel
theorem d_X_step_29 : decode b_X_step 29 = .ok (.iaload, 1) := by decide +kernel
theorem d_X_step_30 : decode b_X_step 30 = .ok (.iconst 1, 1) := by decide +kernel
theorem d_X_step_31 : decode b_X_step 31 = .ok (.if_icmp .ne 18, 3) := by decide +kernel
theorem d_X_step_34 : decode b_X_step 34 = .ok (.aload_n 0, 1) := by decide +kernel
theorem d_X_step_35 : decode b_X_step 35 = .ok (.getfield 7, 3) := by decide +kernel
theorem d_X_step_38 : decode b_X_step 38 = .ok (.iconst 4, 1) := by decide +kernel
theorem d_X_step_39 : decode b_X_step 39 = .ok (.iconst 0, 1) := by decide +kernel
theorem d_X_step_40 : decode b_X_step 40 = .ok (.iastore, 1) := by decide +kernel
theorem d_X_step_41 : decode b_X_step 41 = .ok (.aload_n 0, 1) := by decide +kernel
theorem d_X_step_42 : decode b_X_step 42 = .ok (.iconst 1, 1) := by decide +kernel
theorem d_X_step_43 : decode b_X_step 43 = .ok (.invokevirtual 78, 3) := by decide +kernel
theorem d_X_step_46 : decode b_X_step 46 = .ok (.goto 48, 3) := by decide +kernel
theorem d_X_step_49 : decode b_X_step 49 = .ok (.aload_n 0, 1) := by decide +kernel
theorem d_X_step_50 : decode b_X_step 50 = .ok (.getfield 7, 3) := by decide +kernel
theorem d_X_step_53 : decode b_X_step 53 = .ok (.iconst 2, 1) := by decide +kernel
theorem d_X_step_54 : decode b_X_step 54 = .ok (.iaload, 1) := by decide +kernel
theorem d_X_step_55 : decode b_X_step 55 = .ok (.iconst 1, 1) := by decide +kernel
theorem d_X_step_56 : decode b_X_step 56 = .ok (.if_icmp .ne 34, 3) := by decide +kernel
theorem d_X_step_59 : decode b_X_step 59 = .ok (.aload_n 0, 1) := by decide +kernel
theorem d_X_step_60 : decode b_X_step 60 = .ok (.getfield 7, 3) := by decide +kernel
theorem d_X_step_63 : decode b_X_step 63 = .ok (.iconst 2, 1) := by decide +kernel
theorem d_X_step_64 : decode b_X_step 64 = .ok (.iconst 0, 1) := by decide +kernel
theorem d_X_step_65 : decode b_X_step 65 = .ok (.iastore, 1) := by decide +kernel
theorem d_X_step_66 : decode b_X_step 66 = .ok (.aload_n 0, 1) := by decide +kernel
theorem d_X_step_67 : decode b_X_step 67 = .ok (.getfield 19, 3) := by decide +kernel
theorem d_X_step_70 : decode b_X_step 70 = .ok (.bipush 6, 2) := by decide +kernel
theorem d_X_step_72 : decode b_X_step 72 = .ok (.aload_n 0, 1) := by decide +kernel
theorem d_X_step_73 : decode b_X_step 73 = .ok (.getfield 19, 3) := by decide +kernel
theorem d_X_step_76 : decode b_X_step 76 = .ok (.bipush 6, 2) := by decide +kernel
theorem d_X_step_78 : decode b_X_step 78 = .ok (.iaload, 1) := by decide +kernel
theorem d_X_step_79 : decode b_X_step 79 = .ok (.iconst 1, 1) := by decide +kernel
theorem d_X_step_80 : decode b_X_step 80 = .ok (.iadd, 1) := by decide +kernel
theorem d_X_step_81 : decode b_X_step 81 = .ok (.iastore, 1) := by decide +kernel
theorem d_X_step_82 : decode b_X_step 82 = .ok (.aload_n 0, 1) := by decide +kernel
theorem d_X_step_83 : decode b_X_step 83 = .ok (.iconst (-1), 1) := by decide +kernel
theorem d_X_step_84 : decode b_X_step 84 = .ok (.invokevirtual 82, 3) := by decide +kernel
theorem d_X_step_87 : decode b_X_step 87 = .ok (.goto 7, 3) := by decide +kernel
theorem d_X_step_90 : decode b_X_step 90 = .ok (.aload_n 0, 1) := by decide +kernel
theorem d_X_step_91 : decode b_X_step 91 = .ok (.invokevirtual 85, 3) := by decide +kernel
theorem d_X_step_94 : decode b_X_step 94 = .ok (.return_, 1) := by decide +kernel
theorem d_X_traps_0 : decode b_X_traps 0 = .ok (.aload_n 0, 1) := by decide +kernel
theorem d_X_traps_1 : decode b_X_traps 1 = .ok (.getfield 19, 3) := by decide +kernel
theorem d_X_traps_4 : decode b_X_traps 4 = .ok (.iconst 1, 1) := by decide +kernel
theorem d_X_traps_5 : decode b_X_traps 5 = .ok (.iaload, 1) := by decide +kernel
theorem d_X_traps_6 : decode b_X_traps 6 = .ok (.aload_n 0, 1) := by decide +kernel
theorem d_X_traps_7 : decode b_X_traps 7 = .ok (.getfield 19, 3) := by decide +kernel
theorem d_X_traps_10 : decode b_X_traps 10 = .ok (.iconst 2, 1) := by decide +kernel
theorem d_X_traps_11 : decode b_X_traps 11 = .ok (.iaload, 1) := by decide +kernel
theorem d_X_traps_12 : decode b_X_traps 12 = .ok (.iadd, 1) := by decide +kernel
theorem d_X_traps_13 : decode b_X_traps 13 = .ok (.aload_n 0, 1) := by decide +kernel
theorem d_X_traps_14 : decode b_X_traps 14 = .ok (.getfield 19, 3) := by decide +kernel
theorem d_X_traps_17 : decode b_X_traps 17 = .ok (.iconst 3, 1) := by decide +kernel
theorem d_X_traps_18 : decode b_X_traps 18 = .ok (.iaload, 1) := by decide +kernel
theorem d_X_traps_19 : decode b_X_traps 19 = .ok (.iadd, 1) := by decide +kernel
theorem d_X_traps_20 : decode b_X_traps 20 = .ok (.aload_n 0, 1) := by decide +kernel
theorem d_X_traps_21 : decode b_X_traps 21 = .ok (.getfield 19, 3) := by decide +kernel
theorem d_X_traps_24 : decode b_X_traps 24 = .ok (.iconst 4, 1) := by decide +kernel
theorem d_X_traps_25 : decode b_X_traps 25 = .ok (.iaload, 1) := by decide +kernel
theorem d_X_traps_26 : decode b_X_traps 26 = .ok (.iadd, 1) := by decide +kernel
theorem d_X_traps_27 : decode b_X_traps 27 = .ok (.aload_n 0, 1) := by decide +kernel
theorem d_X_traps_28 : decode b_X_traps 28 = .ok (.getfield 19, 3) := by decide +kernel
theorem d_X_traps_31 : decode b_X_traps 31 = .ok (.iconst 5, 1) := by decide +kernel
theorem d_X_traps_32 : decode b_X_traps 32 = .ok (.iaload, 1) := by decide +kernel
theorem d_X_traps_33 : decode b_X_traps 33 = .ok (.iadd, 1) := by decide +kernel
theorem d_X_traps_34 : decode b_X_traps 34 = .ok (.ireturn, 1) := by decide +kernel
theorem d_X_run_0 : decode b_X_run 0 = .ok (.iload_n 1, 1) := by decide +kernel
theorem d_X_run_1 : decode b_X_run 1 = .ok (.ifCond .lt 10, 3) := by decide +kernel
theorem d_X_run_4 : decode b_X_run 4 = .ok (.iload_n 1, 1) := by decide +kernel
theorem d_X_run_5 : decode b_X_run 5 = .ok (.sipush 200, 3) := by decide +kernel
theorem d_X_run_8 : decode b_X_run 8 = .ok (.if_icmp .le 5, 3) := by decide +kernel
theorem d_X_run_11 : decode b_X_run 11 = .ok (.iconst (-1), 1) := by decide +kernel
theorem d_X_run_12 : decode b_X_run 12 = .ok (.ireturn, 1) := by decide +kernel
theorem d_X_run_13 : decode b_X_run 13 = .ok (.aload_n 0, 1) := by decide +kernel
theorem d_X_run_14 : decode b_X_run 14 = .ok (.invokevirtual 88, 3) := by decide +kernel
theorem d_X_run_17 : decode b_X_run 17 = .ok (.istore_n 2, 1) := by decide +kernel
theorem d_X_run_18 : decode b_X_run 18 = .ok (.iconst 0, 1) := by decide +kernel
theorem d_X_run_19 : decode b_X_run 19 = .ok (.istore_n 3, 1) := by decide +kernel
theorem d_X_run_20 : decode b_X_run 20 = .ok (.iload_n 3, 1) := by decide +kernel
theorem d_X_run_21 : decode b_X_run 21 = .ok (.iload_n 1, 1) := by decide +kernel
theorem d_X_run_22 : decode b_X_run 22 = .ok (.if_icmp .ge 13, 3) := by decide +kernel
theorem d_X_run_25 : decode b_X_run 25 = .ok (.aload_n 0, 1) := by decide +kernel
theorem d_X_run_26 : decode b_X_run 26 = .ok (.invokevirtual 92, 3) := by decide +kernel
theorem d_X_run_29 : decode b_X_run 29 = .ok (.iinc 3 1, 3) := by decide +kernel
theorem d_X_run_32 : decode b_X_run 32 = .ok (.goto (-12), 3) := by decide +kernel
theorem d_X_run_35 : decode b_X_run 35 = .ok (.aload_n 0, 1) := by decide +kernel
theorem d_X_run_36 : decode b_X_run 36 = .ok (.invokevirtual 88, 3) := by decide +kernel
theorem d_X_run_39 : decode b_X_run 39 = .ok (.iload_n 2, 1) := by decide +kernel
theorem d_X_run_40 : decode b_X_run 40 = .ok (.isub, 1) := by decide +kernel
theorem d_X_run_41 : decode b_X_run 41 = .ok (.ireturn, 1) := by decide +kernel
theorem d_X_state_0 : decode b_X_state 0 = .ok (.iload_n 1, 1) := by decide +kernel
theorem d_X_state_1 : decode b_X_state 1 = .ok (.tableswitch 186 0 12 #[67, 77, 87, 97, 107, 114, 121, 128, 138, 148, 159, 170, 178], 67) := by decide +kernel
theorem d_X_state_68 : decode b_X_state 68 = .ok (.aload_n 0, 1) := by decide +kernel
theorem d_X_state_69 : decode b_X_state 69 = .ok (.getfield 7, 3) := by decide +kernel
theorem d_X_state_72 : decode b_X_state 72 = .ok (.iconst 0, 1) := by decide +kernel
theorem d_X_state_73 : decode b_X_state 73 = .ok (.iaload, 1) := by decide +kernel
theorem d_X_state_74 : decode b_X_state 74 = .ok (.bipush 32, 2) := by decide +kernel
theorem d_X_state_76 : decode b_X_state 76 = .ok (.idiv, 1) := by decide +kernel
theorem d_X_state_77 : decode b_X_state 77 = .ok (.ireturn, 1) := by decide +kernel
theorem d_X_state_78 : decode b_X_state 78 = .ok (.aload_n 0, 1) := by decide +kernel
theorem d_X_state_79 : decode b_X_state 79 = .ok (.getfield 7, 3) := by decide +kernel
theorem d_X_state_82 : decode b_X_state 82 = .ok (.iconst 0, 1) := by decide +kernel
theorem d_X_state_83 : decode b_X_state 83 = .ok (.iaload, 1) := by decide +kernel
theorem d_X_state_84 : decode b_X_state 84 = .ok (.bipush 32, 2) := by decide +kernel
theorem d_X_state_86 : decode b_X_state 86 = .ok (.irem, 1) := by decide +kernel
theorem d_X_state_87 : decode b_X_state 87 = .ok (.ireturn, 1) := by decide +kernel
theorem d_X_state_88 : decode b_X_state 88 = .ok (.aload_n 0, 1) := by decide +kernel
theorem d_X_state_89 : decode b_X_state 89 = .ok (.getfield 7, 3) := by decide +kernel
theorem d_X_state_92 : decode b_X_state 92 = .ok (.iconst 1, 1) := by decide +kernel
theorem d_X_state_93 : decode b_X_state 93 = .ok (.iaload, 1) := by decide +kernel
theorem d_X_state_94 : decode b_X_state 94 = .ok (.bipush 32, 2) := by decide +kernel
theorem d_X_state_96 : decode b_X_state 96 = .ok (.idiv, 1) := by decide +kernel
theorem d_X_state_97 : decode b_X_state 97 = .ok (.ireturn, 1) := by decide +kernel
theorem d_X_state_98 : decode b_X_state 98 = .ok (.aload_n 0, 1) := by decide +kernel
theorem d_X_state_99 : decode b_X_state 99 = .ok (.getfield 7, 3) := by decide +kernel
theorem d_X_state_102 : decode b_X_state 102 = .ok (.iconst 1, 1) := by decide +kernel
theorem d_X_state_103 : decode b_X_state 103 = .ok (.iaload, 1) := by decide +kernel
theorem d_X_state_104 : decode b_X_state 104 = .ok (.bipush 32, 2) := by decide +kernel
theorem d_X_state_106 : decode b_X_state 106 = .ok (.irem, 1) := by decide +kernel
theorem d_X_state_107 : decode b_X_state 107 = .ok (.ireturn, 1) := by decide +kernel
theorem d_X_state_108 : decode b_X_state 108 = .ok (.aload_n 0, 1) := by decide +kernel
theorem d_X_state_109 : decode b_X_state 109 = .ok (.getfield 7, 3) := by decide +kernel
theorem d_X_state_112 : decode b_X_state 112 = .ok (.iconst 2, 1) := by decide +kernel
theorem d_X_state_113 : decode b_X_state 113 = .ok (.iaload, 1) := by decide +kernel
theorem d_X_state_114 : decode b_X_state 114 = .ok (.ireturn, 1) := by decide +kernel
theorem d_X_state_115 : decode b_X_state 115 = .ok (.aload_n 0, 1) := by decide +kernel
theorem d_X_state_116 : decode b_X_state 116 = .ok (.getfield 7, 3) := by decide +kernel
theorem d_X_state_119 : decode b_X_state 119 = .ok (.iconst 3, 1) := by decide +kernel
theorem d_X_state_120 : decode b_X_state 120 = .ok (.iaload, 1) := by decide +kernel
theorem d_X_state_121 : decode b_X_state 121 = .ok (.ireturn, 1) := by decide +kernel
theorem d_X_state_122 : decode b_X_state 122 = .ok (.aload_n 0, 1) := by decide +kernel
theorem d_X_state_123 : decode b_X_state 123 = .ok (.getfield 7, 3) := by decide +kernel
theorem d_X_state_126 : decode b_X_state 126 = .ok (.iconst 4, 1) := by decide +kernel
theorem d_X_state_127 : decode b_X_state 127 = .ok (.iaload, 1) := by decide +kernel
theorem d_X_state_128 : decode b_X_state 128 = .ok (.ireturn, 1) := by decide +kernel
theorem d_X_state_129 : decode b_X_state 129 = .ok (.aload_n 0, 1) := by decide +kernel
theorem d_X_state_130 : decode b_X_state 130 = .ok (.getfield 7, 3) := by decide +kernel
theorem d_X_state_133 : decode b_X_state 133 = .ok (.iconst 5, 1) := by decide +kernel
theorem d_X_state_134 : decode b_X_state 134 = .ok (.iaload, 1) := by decide +kernel
theorem d_X_state_135 : decode b_X_state 135 = .ok (.bipush 32, 2) := by decide +kernel
theorem d_X_state_137 : decode b_X_state 137 = .ok (.idiv, 1) := by decide +kernel
theorem d_X_state_138 : decode b_X_state 138 = .ok (.ireturn, 1) := by decide +kernel
theorem d_X_state_139 : decode b_X_state 139 = .ok (.aload_n 0, 1) := by decide +kernel
theorem d_X_state_140 : decode b_X_state 140 = .ok (.getfield 7, 3) := by decide +kernel
theorem d_X_state_143 : decode b_X_state 143 = .ok (.iconst 5, 1) := by decide +kernel
theorem d_X_state_144 : decode b_X_state 144 = .ok (.iaload, 1) := by decide +kernel
theorem d_X_state_145 : decode b_X_state 145 = .ok (.bipush 32, 2) := by decide +kernel
theorem d_X_state_147 : decode b_X_state 147 = .ok (.irem, 1) := by decide +kernel
theorem d_X_state_148 : decode b_X_state 148 = .ok (.ireturn, 1) := by decide +kernel
theorem d_X_state_149 : decode b_X_state 149 = .ok (.aload_n 0, 1) := by decide +kernel
theorem d_X_state_150 : decode b_X_state 150 = .ok (.getfield 7, 3) := by decide +kernel
theorem d_X_state_153 : decode b_X_state 153 = .ok (.bipush 6, 2) := by decide +kernel
theorem d_X_state_155 : decode b_X_state 155 = .ok (.iaload, 1) := by decide +kernel
theorem d_X_state_156 : decode b_X_state 156 = .ok (.bipush 32, 2) := by decide +kernel
theorem d_X_state_158 : decode b_X_state 158 = .ok (.idiv, 1) := by decide +kernel
theorem d_X_state_159 : decode b_X_state 159 = .ok (.ireturn, 1) := by decide +kernel
theorem d_X_state_160 : decode b_X_state 160 = .ok (.aload_n 0, 1) := by decide +kernel
theorem d_X_state_161 : decode b_X_state 161 = .ok (.getfield 7, 3) := by decide +kernel
theorem d_X_state_164 : decode b_X_state 164 = .ok (.bipush 6, 2) := by decide +kernel
theorem d_X_state_166 : decode b_X_state 166 = .ok (.iaload, 1) := by decide +kernel
theorem d_X_state_167 : decode b_X_state 167 = .ok (.bipush 32, 2) := by decide +kernel
theorem d_X_state_169 : decode b_X_state 169 = .ok (.irem, 1) := by decide +kernel
theorem d_X_state_170 : decode b_X_state 170 = .ok (.ireturn, 1) := by decide +kernel
theorem d_X_state_171 : decode b_X_state 171 = .ok (.aload_n 0, 1) := by decide +kernel
theorem d_X_state_172 : decode b_X_state 172 = .ok (.getfield 7, 3) := by decide +kernel
theorem d_X_state_175 : decode b_X_state 175 = .ok (.bipush 7, 2) := by decide +kernel
theorem d_X_state_177 : decode b_X_state 177 = .ok (.iaload, 1) := by decide +kernel
theorem d_X_state_178 : decode b_X_state 178 = .ok (.ireturn, 1) := by decide +kernel
theorem d_X_state_179 : decode b_X_state 179 = .ok (.aload_n 0, 1) := by decide +kernel
theorem d_X_state_180 : decode b_X_state 180 = .ok (.getfield 7, 3) := by decide +kernel
theorem d_X_state_183 : decode b_X_state 183 = .ok (.bipush 8, 2) := by decide +kernel
theorem d_X_state_185 : decode b_X_state 185 = .ok (.iaload, 1) := by decide +kernel
theorem d_X_state_186 : decode b_X_state 186 = .ok (.ireturn, 1) := by decide +kernel
theorem d_X_state_187 : decode b_X_state 187 = .ok (.iload_n 1, 1) := by decide +kernel
theorem d_X_state_188 : decode b_X_state 188 = .ok (.bipush 13, 2) := by decide +kernel
theorem d_X_state_190 : decode b_X_state 190 = .ok (.if_icmp .ne 13, 3) := by decide +kernel
theorem d_X_state_193 : decode b_X_state 193 = .ok (.aload_n 0, 1) := by decide +kernel
theorem d_X_state_194 : decode b_X_state 194 = .ok (.getfield 7, 3) := by decide +kernel
theorem d_X_state_197 : decode b_X_state 197 = .ok (.bipush 9, 2) := by decide +kernel
theorem d_X_state_199 : decode b_X_state 199 = .ok (.iaload, 1) := by decide +kernel
theorem d_X_state_200 : decode b_X_state 200 = .ok (.goto 4, 3) := by decide +kernel
theorem d_X_state_203 : decode b_X_state 203 = .ok (.iconst (-1), 1) := by decide +kernel
theorem d_X_state_204 : decode b_X_state 204 = .ok (.ireturn, 1) := by decide +kernel
theorem d_X_register_0 : decode b_X_register 0 = .ok (.iload_n 1, 1) := by decide +kernel
theorem d_X_register_1 : decode b_X_register 1 = .ok (.bipush 8, 2) := by decide +kernel
theorem d_X_register_3 : decode b_X_register 3 = .ok (.invokestatic 26, 3) := by decide +kernel
theorem d_X_register_6 : decode b_X_register 6 = .ok (.ifCond .eq 15, 3) := by decide +kernel
theorem d_X_register_9 : decode b_X_register 9 = .ok (.aload_n 0, 1) := by decide +kernel
theorem d_X_register_10 : decode b_X_register 10 = .ok (.getfield 7, 3) := by decide +kernel
theorem d_X_register_13 : decode b_X_register 13 = .ok (.bipush 10, 2) := by decide +kernel
theorem d_X_register_15 : decode b_X_register 15 = .ok (.iload_n 1, 1) := by decide +kernel
theorem d_X_register_16 : decode b_X_register 16 = .ok (.iadd, 1) := by decide +kernel
theorem d_X_register_17 : decode b_X_register 17 = .ok (.iaload, 1) := by decide +kernel
theorem d_X_register_18 : decode b_X_register 18 = .ok (.goto 4, 3) := by decide +kernel
theorem d_X_register_21 : decode b_X_register 21 = .ok (.iconst 0, 1) := by decide +kernel
theorem d_X_register_22 : decode b_X_register 22 = .ok (.ireturn, 1) := by decide +kernel
theorem d_X_space_0 : decode b_X_space 0 = .ok (.iload_n 1, 1) := by decide +kernel
theorem d_X_space_1 : decode b_X_space 1 = .ok (.iconst 4, 1) := by decide +kernel
theorem d_X_space_2 : decode b_X_space 2 = .ok (.invokestatic 26, 3) := by decide +kernel
theorem d_X_space_5 : decode b_X_space 5 = .ok (.ifCond .eq 15, 3) := by decide +kernel
theorem d_X_space_8 : decode b_X_space 8 = .ok (.aload_n 0, 1) := by decide +kernel
theorem d_X_space_9 : decode b_X_space 9 = .ok (.getfield 7, 3) := by decide +kernel
theorem d_X_space_12 : decode b_X_space 12 = .ok (.bipush 18, 2) := by decide +kernel
theorem d_X_space_14 : decode b_X_space 14 = .ok (.iload_n 1, 1) := by decide +kernel
theorem d_X_space_15 : decode b_X_space 15 = .ok (.iadd, 1) := by decide +kernel
theorem d_X_space_16 : decode b_X_space 16 = .ok (.iaload, 1) := by decide +kernel
theorem d_X_space_17 : decode b_X_space 17 = .ok (.goto 4, 3) := by decide +kernel
theorem d_X_space_20 : decode b_X_space 20 = .ok (.iconst (-1), 1) := by decide +kernel
theorem d_X_space_21 : decode b_X_space 21 = .ok (.ireturn, 1) := by decide +kernel
theorem d_X_word_0 : decode b_X_word 0 = .ok (.iload_n 1, 1) := by decide +kernel
theorem d_X_word_1 : decode b_X_word 1 = .ok (.iconst 4, 1) := by decide +kernel
theorem d_X_word_2 : decode b_X_word 2 = .ok (.invokestatic 26, 3) := by decide +kernel
theorem d_X_word_5 : decode b_X_word 5 = .ok (.ifCond .eq 25, 3) := by decide +kernel
theorem d_X_word_8 : decode b_X_word 8 = .ok (.iload_n 2, 1) := by decide +kernel
theorem d_X_word_9 : decode b_X_word 9 = .ok (.bipush 32, 2) := by decide +kernel
theorem d_X_word_11 : decode b_X_word 11 = .ok (.invokestatic 26, 3) := by decide +kernel
theorem d_X_word_14 : decode b_X_word 14 = .ok (.ifCond .eq 16, 3) := by decide +kernel
theorem d_X_word_17 : decode b_X_word 17 = .ok (.aload_n 0, 1) := by decide +kernel
theorem d_X_word_18 : decode b_X_word 18 = .ok (.getfield 16, 3) := by decide +kernel
theorem d_X_word_21 : decode b_X_word 21 = .ok (.iload_n 1, 1) := by decide +kernel
theorem d_X_word_22 : decode b_X_word 22 = .ok (.iload_n 2, 1) := by decide +kernel
theorem d_X_word_23 : decode b_X_word 23 = .ok (.invokestatic 22, 3) := by decide +kernel
theorem d_X_word_26 : decode b_X_word 26 = .ok (.iaload, 1) := by decide +kernel
theorem d_X_word_27 : decode b_X_word 27 = .ok (.goto 4, 3) := by decide +kernel
theorem d_X_word_30 : decode b_X_word 30 = .ok (.iconst 0, 1) := by decide +kernel
theorem d_X_word_31 : decode b_X_word 31 = .ok (.ireturn, 1) := by decide +kernel
theorem d_X_peek_0 : decode b_X_peek 0 = .ok (.iload_n 1, 1) := by decide +kernel
theorem d_X_peek_1 : decode b_X_peek 1 = .ok (.iconst 4, 1) := by decide +kernel
theorem d_X_peek_2 : decode b_X_peek 2 = .ok (.invokestatic 26, 3) := by decide +kernel
theorem d_X_peek_5 : decode b_X_peek 5 = .ok (.ifCond .eq 29, 3) := by decide +kernel
theorem d_X_peek_8 : decode b_X_peek 8 = .ok (.iload_n 2, 1) := by decide +kernel
theorem d_X_peek_9 : decode b_X_peek 9 = .ok (.bipush 16, 2) := by decide +kernel
theorem d_X_peek_11 : decode b_X_peek 11 = .ok (.invokestatic 26, 3) := by decide +kernel
theorem d_X_peek_14 : decode b_X_peek 14 = .ok (.ifCond .eq 20, 3) := by decide +kernel
theorem d_X_peek_17 : decode b_X_peek 17 = .ok (.aload_n 0, 1) := by decide +kernel
theorem d_X_peek_18 : decode b_X_peek 18 = .ok (.getfield 7, 3) := by decide +kernel
theorem d_X_peek_21 : decode b_X_peek 21 = .ok (.bipush 22, 2) := by decide +kernel
theorem d_X_peek_23 : decode b_X_peek 23 = .ok (.bipush 16, 2) := by decide +kernel
theorem d_X_peek_25 : decode b_X_peek 25 = .ok (.iload_n 1, 1) := by decide +kernel
theorem d_X_peek_26 : decode b_X_peek 26 = .ok (.imul, 1) := by decide +kernel
theorem d_X_peek_27 : decode b_X_peek 27 = .ok (.iadd, 1) := by decide +kernel
theorem d_X_peek_28 : decode b_X_peek 28 = .ok (.iload_n 2, 1) := by decide +kernel
theorem d_X_peek_29 : decode b_X_peek 29 = .ok (.iadd, 1) := by decide +kernel
theorem d_X_peek_30 : decode b_X_peek 30 = .ok (.iaload, 1) := by decide +kernel
theorem d_X_peek_31 : decode b_X_peek 31 = .ok (.goto 4, 3) := by decide +kernel
theorem d_X_peek_34 : decode b_X_peek 34 = .ok (.iconst 0, 1) := by decide +kernel
theorem d_X_peek_35 : decode b_X_peek 35 = .ok (.ireturn, 1) := by decide +kernel
theorem d_X_count_0 : decode b_X_count 0 = .ok (.iload_n 1, 1) := by decide +kernel
theorem d_X_count_1 : decode b_X_count 1 = .ok (.bipush 7, 2) := by decide +kernel
theorem d_X_count_3 : decode b_X_count 3 = .ok (.invokestatic 26, 3) := by decide +kernel
theorem d_X_count_6 : decode b_X_count 6 = .ok (.ifCond .eq 12, 3) := by decide +kernel
theorem d_X_count_9 : decode b_X_count 9 = .ok (.aload_n 0, 1) := by decide +kernel
theorem d_X_count_10 : decode b_X_count 10 = .ok (.getfield 19, 3) := by decide +kernel
theorem d_X_count_13 : decode b_X_count 13 = .ok (.iload_n 1, 1) := by decide +kernel
theorem d_X_count_14 : decode b_X_count 14 = .ok (.iaload, 1) := by decide +kernel
theorem d_X_count_15 : decode b_X_count 15 = .ok (.goto 4, 3) := by decide +kernel
theorem d_X_count_18 : decode b_X_count 18 = .ok (.iconst (-1), 1) := by decide +kernel
theorem d_X_count_19 : decode b_X_count 19 = .ok (.ireturn, 1) := by decide +kernel
theorem d_X_mark_0 : decode b_X_mark 0 = .ok (.iconst 0, 1) := by decide +kernel
theorem d_X_mark_1 : decode b_X_mark 1 = .ok (.istore_n 1, 1) := by decide +kernel
theorem d_X_mark_2 : decode b_X_mark 2 = .ok (.iload_n 1, 1) := by decide +kernel
theorem d_X_mark_3 : decode b_X_mark 3 = .ok (.bipush 86, 2) := by decide +kernel
theorem d_X_mark_5 : decode b_X_mark 5 = .ok (.if_icmp .ge 21, 3) := by decide +kernel
theorem d_X_mark_8 : decode b_X_mark 8 = .ok (.aload_n 0, 1) := by decide +kernel
theorem d_X_mark_9 : decode b_X_mark 9 = .ok (.getfield 13, 3) := by decide +kernel
theorem d_X_mark_12 : decode b_X_mark 12 = .ok (.iload_n 1, 1) := by decide +kernel
theorem d_X_mark_13 : decode b_X_mark 13 = .ok (.aload_n 0, 1) := by decide +kernel
theorem d_X_mark_14 : decode b_X_mark 14 = .ok (.getfield 7, 3) := by decide +kernel
theorem d_X_mark_17 : decode b_X_mark 17 = .ok (.iload_n 1, 1) := by decide +kernel
theorem d_X_mark_18 : decode b_X_mark 18 = .ok (.iaload, 1) := by decide +kernel
theorem d_X_mark_19 : decode b_X_mark 19 = .ok (.iastore, 1) := by decide +kernel
theorem d_X_mark_20 : decode b_X_mark 20 = .ok (.iinc 1 1, 3) := by decide +kernel
theorem d_X_mark_23 : decode b_X_mark 23 = .ok (.goto (-21), 3) := by decide +kernel
theorem d_X_mark_26 : decode b_X_mark 26 = .ok (.aload_n 0, 1) := by decide +kernel
theorem d_X_mark_27 : decode b_X_mark 27 = .ok (.iconst 1, 1) := by decide +kernel
theorem d_X_mark_28 : decode b_X_mark 28 = .ok (.putfield 95, 3) := by decide +kernel
theorem d_X_mark_31 : decode b_X_mark 31 = .ok (.return_, 1) := by decide +kernel
theorem d_X_back_0 : decode b_X_back 0 = .ok (.iconst 0, 1) := by decide +kernel
theorem d_X_back_1 : decode b_X_back 1 = .ok (.istore_n 1, 1) := by decide +kernel
theorem d_X_back_2 : decode b_X_back 2 = .ok (.iload_n 1, 1) := by decide +kernel
theorem d_X_back_3 : decode b_X_back 3 = .ok (.bipush 86, 2) := by decide +kernel
theorem d_X_back_5 : decode b_X_back 5 = .ok (.if_icmp .ge 28, 3) := by decide +kernel
theorem d_X_back_8 : decode b_X_back 8 = .ok (.aload_n 0, 1) := by decide +kernel
theorem d_X_back_9 : decode b_X_back 9 = .ok (.getfield 95, 3) := by decide +kernel
theorem d_X_back_12 : decode b_X_back 12 = .ok (.ifCond .eq 21, 3) := by decide +kernel
theorem d_X_back_15 : decode b_X_back 15 = .ok (.aload_n 0, 1) := by decide +kernel
theorem d_X_back_16 : decode b_X_back 16 = .ok (.getfield 7, 3) := by decide +kernel
theorem d_X_back_19 : decode b_X_back 19 = .ok (.iload_n 1, 1) := by decide +kernel
theorem d_X_back_20 : decode b_X_back 20 = .ok (.aload_n 0, 1) := by decide +kernel
theorem d_X_back_21 : decode b_X_back 21 = .ok (.getfield 13, 3) := by decide +kernel
theorem d_X_back_24 : decode b_X_back 24 = .ok (.iload_n 1, 1) := by decide +kernel
theorem d_X_back_25 : decode b_X_back 25 = .ok (.iaload, 1) := by decide +kernel
theorem d_X_back_26 : decode b_X_back 26 = .ok (.iastore, 1) := by decide +kernel
theorem d_X_back_27 : decode b_X_back 27 = .ok (.iinc 1 1, 3) := by decide +kernel
theorem d_X_back_30 : decode b_X_back 30 = .ok (.goto (-28), 3) := by decide +kernel
theorem d_X_back_33 : decode b_X_back 33 = .ok (.aload_n 0, 1) := by decide +kernel
theorem d_X_back_34 : decode b_X_back 34 = .ok (.getfield 95, 3) := by decide +kernel
theorem d_X_back_37 : decode b_X_back 37 = .ok (.ireturn, 1) := by decide +kernel
