theorem d_M_init_0 : decode b_M_init 0 = .ok (.aload_n 0, 1) := by decide +kernel
theorem d_M_init_1 : decode b_M_init 1 = .ok (.invokespecial 3, 3) := by decide +kernel
theorem d_M_init_4 : decode b_M_init 4 = .ok (.aload_n 0, 1) := by decide +kernel
theorem d_M_init_5 : decode b_M_init 5 = .ok (.bipush 8, 2) := by decide +kernel
theorem d_M_init_7 : decode b_M_init 7 = .ok (.newarray .int, 2) := by decide +kernel
theorem d_M_init_9 : decode b_M_init 9 = .ok (.putfield 9, 3) := by decide +kernel
theorem d_M_init_12 : decode b_M_init 12 = .ok (.aload_n 0, 1) := by decide +kernel
theorem d_M_init_13 : decode b_M_init 13 = .ok (.iconst 4, 1) := by decide +kernel
theorem d_M_init_14 : decode b_M_init 14 = .ok (.newarray .int, 2) := by decide +kernel
theorem d_M_init_16 : decode b_M_init 16 = .ok (.putfield 15, 3) := by decide +kernel
theorem d_M_init_19 : decode b_M_init 19 = .ok (.aload_n 0, 1) := by decide +kernel
theorem d_M_init_20 : decode b_M_init 20 = .ok (.bipush 64, 2) := by decide +kernel
theorem d_M_init_22 : decode b_M_init 22 = .ok (.newarray .int, 2) := by decide +kernel
theorem d_M_init_24 : decode b_M_init 24 = .ok (.putfield 18, 3) := by decide +kernel
theorem d_M_init_27 : decode b_M_init 27 = .ok (.aload_n 0, 1) := by decide +kernel
theorem d_M_init_28 : decode b_M_init 28 = .ok (.new 21, 3) := by decide +kernel
theorem d_M_init_31 : decode b_M_init 31 = .ok (.dup, 1) := by decide +kernel
theorem d_M_init_32 : decode b_M_init 32 = .ok (.invokespecial 23, 3) := by decide +kernel
theorem d_M_init_35 : decode b_M_init 35 = .ok (.putfield 24, 3) := by decide +kernel
theorem d_M_init_38 : decode b_M_init 38 = .ok (.aload_n 0, 1) := by decide +kernel
theorem d_M_init_39 : decode b_M_init 39 = .ok (.new 21, 3) := by decide +kernel
theorem d_M_init_42 : decode b_M_init 42 = .ok (.dup, 1) := by decide +kernel
theorem d_M_init_43 : decode b_M_init 43 = .ok (.invokespecial 23, 3) := by decide +kernel
theorem d_M_init_46 : decode b_M_init 46 = .ok (.putfield 28, 3) := by decide +kernel
theorem d_M_init_49 : decode b_M_init 49 = .ok (.aload_n 0, 1) := by decide +kernel
theorem d_M_init_50 : decode b_M_init 50 = .ok (.iconst 0, 1) := by decide +kernel
theorem d_M_init_51 : decode b_M_init 51 = .ok (.putfield 31, 3) := by decide +kernel
theorem d_M_init_54 : decode b_M_init 54 = .ok (.aload_n 0, 1) := by decide +kernel
theorem d_M_init_55 : decode b_M_init 55 = .ok (.iconst 0, 1) := by decide +kernel
theorem d_M_init_56 : decode b_M_init 56 = .ok (.putfield 35, 3) := by decide +kernel
theorem d_M_init_59 : decode b_M_init 59 = .ok (.aload_n 0, 1) := by decide +kernel
theorem d_M_init_60 : decode b_M_init 60 = .ok (.getfield 24, 3) := by decide +kernel
theorem d_M_init_63 : decode b_M_init 63 = .ok (.iconst 0, 1) := by decide +kernel
theorem d_M_init_64 : decode b_M_init 64 = .ok (.iconst 0, 1) := by decide +kernel
theorem d_M_init_65 : decode b_M_init 65 = .ok (.invokevirtual 38, 3) := by decide +kernel
theorem d_M_init_68 : decode b_M_init 68 = .ok (.return_, 1) := by decide +kernel
theorem d_M_become_0 : decode b_M_become 0 = .ok (.aload_n 1, 1) := by decide +kernel
theorem d_M_become_1 : decode b_M_become 1 = .ok (.getfield 9, 3) := by decide +kernel
theorem d_M_become_4 : decode b_M_become 4 = .ok (.iconst 0, 1) := by decide +kernel
theorem d_M_become_5 : decode b_M_become 5 = .ok (.aload_n 0, 1) := by decide +kernel
theorem d_M_become_6 : decode b_M_become 6 = .ok (.getfield 9, 3) := by decide +kernel
theorem d_M_become_9 : decode b_M_become 9 = .ok (.iconst 0, 1) := by decide +kernel
theorem d_M_become_10 : decode b_M_become 10 = .ok (.bipush 8, 2) := by decide +kernel
theorem d_M_become_12 : decode b_M_become 12 = .ok (.invokestatic 42, 3) := by decide +kernel
theorem d_M_become_15 : decode b_M_become 15 = .ok (.aload_n 1, 1) := by decide +kernel
theorem d_M_become_16 : decode b_M_become 16 = .ok (.getfield 15, 3) := by decide +kernel
theorem d_M_become_19 : decode b_M_become 19 = .ok (.iconst 0, 1) := by decide +kernel
theorem d_M_become_20 : decode b_M_become 20 = .ok (.aload_n 0, 1) := by decide +kernel
theorem d_M_become_21 : decode b_M_become 21 = .ok (.getfield 15, 3) := by decide +kernel
theorem d_M_become_24 : decode b_M_become 24 = .ok (.iconst 0, 1) := by decide +kernel
theorem d_M_become_25 : decode b_M_become 25 = .ok (.iconst 4, 1) := by decide +kernel
theorem d_M_become_26 : decode b_M_become 26 = .ok (.invokestatic 42, 3) := by decide +kernel
theorem d_M_become_29 : decode b_M_become 29 = .ok (.aload_n 1, 1) := by decide +kernel
theorem d_M_become_30 : decode b_M_become 30 = .ok (.getfield 18, 3) := by decide +kernel
theorem d_M_become_33 : decode b_M_become 33 = .ok (.iconst 0, 1) := by decide +kernel
theorem d_M_become_34 : decode b_M_become 34 = .ok (.aload_n 0, 1) := by decide +kernel
theorem d_M_become_35 : decode b_M_become 35 = .ok (.getfield 18, 3) := by decide +kernel
theorem d_M_become_38 : decode b_M_become 38 = .ok (.iconst 0, 1) := by decide +kernel
theorem d_M_become_39 : decode b_M_become 39 = .ok (.bipush 64, 2) := by decide +kernel
theorem d_M_become_41 : decode b_M_become 41 = .ok (.invokestatic 42, 3) := by decide +kernel
theorem d_M_become_44 : decode b_M_become 44 = .ok (.aload_n 0, 1) := by decide +kernel
theorem d_M_become_45 : decode b_M_become 45 = .ok (.getfield 24, 3) := by decide +kernel
theorem d_M_become_48 : decode b_M_become 48 = .ok (.aload_n 1, 1) := by decide +kernel
theorem d_M_become_49 : decode b_M_become 49 = .ok (.getfield 24, 3) := by decide +kernel
theorem d_M_become_52 : decode b_M_become 52 = .ok (.invokevirtual 48, 3) := by decide +kernel
theorem d_M_become_55 : decode b_M_become 55 = .ok (.aload_n 0, 1) := by decide +kernel
theorem d_M_become_56 : decode b_M_become 56 = .ok (.getfield 28, 3) := by decide +kernel
theorem d_M_become_59 : decode b_M_become 59 = .ok (.aload_n 1, 1) := by decide +kernel
theorem d_M_become_60 : decode b_M_become 60 = .ok (.getfield 28, 3) := by decide +kernel
theorem d_M_become_63 : decode b_M_become 63 = .ok (.invokevirtual 48, 3) := by decide +kernel
theorem d_M_become_66 : decode b_M_become 66 = .ok (.aload_n 0, 1) := by decide +kernel
theorem d_M_become_67 : decode b_M_become 67 = .ok (.aload_n 1, 1) := by decide +kernel
theorem d_M_become_68 : decode b_M_become 68 = .ok (.getfield 31, 3) := by decide +kernel
theorem d_M_become_71 : decode b_M_become 71 = .ok (.putfield 31, 3) := by decide +kernel
theorem d_M_become_74 : decode b_M_become 74 = .ok (.aload_n 0, 1) := by decide +kernel
theorem d_M_become_75 : decode b_M_become 75 = .ok (.aload_n 1, 1) := by decide +kernel
theorem d_M_become_76 : decode b_M_become 76 = .ok (.getfield 35, 3) := by decide +kernel
theorem d_M_become_79 : decode b_M_become 79 = .ok (.putfield 35, 3) := by decide +kernel
theorem d_M_become_82 : decode b_M_become 82 = .ok (.return_, 1) := by decide +kernel
theorem d_M_enterTrap_0 : decode b_M_enterTrap 0 = .ok (.aload_n 0, 1) := by decide +kernel
theorem d_M_enterTrap_1 : decode b_M_enterTrap 1 = .ok (.getfield 28, 3) := by decide +kernel
theorem d_M_enterTrap_4 : decode b_M_enterTrap 4 = .ok (.aload_n 0, 1) := by decide +kernel
theorem d_M_enterTrap_5 : decode b_M_enterTrap 5 = .ok (.getfield 24, 3) := by decide +kernel
theorem d_M_enterTrap_8 : decode b_M_enterTrap 8 = .ok (.invokevirtual 48, 3) := by decide +kernel
theorem d_M_enterTrap_11 : decode b_M_enterTrap 11 = .ok (.aload_n 0, 1) := by decide +kernel
theorem d_M_enterTrap_12 : decode b_M_enterTrap 12 = .ok (.iload_n 1, 1) := by decide +kernel
theorem d_M_enterTrap_13 : decode b_M_enterTrap 13 = .ok (.putfield 31, 3) := by decide +kernel
theorem d_M_enterTrap_16 : decode b_M_enterTrap 16 = .ok (.aload_n 0, 1) := by decide +kernel
theorem d_M_enterTrap_17 : decode b_M_enterTrap 17 = .ok (.getfield 24, 3) := by decide +kernel
theorem d_M_enterTrap_20 : decode b_M_enterTrap 20 = .ok (.iconst 0, 1) := by decide +kernel
theorem d_M_enterTrap_21 : decode b_M_enterTrap 21 = .ok (.iconst 4, 1) := by decide +kernel
theorem d_M_enterTrap_22 : decode b_M_enterTrap 22 = .ok (.iload_n 1, 1) := by decide +kernel
theorem d_M_enterTrap_23 : decode b_M_enterTrap 23 = .ok (.imul, 1) := by decide +kernel
theorem d_M_enterTrap_24 : decode b_M_enterTrap 24 = .ok (.invokestatic 52, 3) := by decide +kernel
theorem d_M_enterTrap_27 : decode b_M_enterTrap 27 = .ok (.iconst 0, 1) := by decide +kernel
theorem d_M_enterTrap_28 : decode b_M_enterTrap 28 = .ok (.invokevirtual 38, 3) := by decide +kernel
theorem d_M_enterTrap_31 : decode b_M_enterTrap 31 = .ok (.return_, 1) := by decide +kernel
theorem d_M_causeOf_0 : decode b_M_causeOf 0 = .ok (.iload_n 1, 1) := by decide +kernel
theorem d_M_causeOf_1 : decode b_M_causeOf 1 = .ok (.invokestatic 58, 3) := by decide +kernel
theorem d_M_causeOf_4 : decode b_M_causeOf 4 = .ok (.istore_n 2, 1) := by decide +kernel
theorem d_M_causeOf_5 : decode b_M_causeOf 5 = .ok (.iload_n 2, 1) := by decide +kernel
theorem d_M_causeOf_6 : decode b_M_causeOf 6 = .ok (.lookupswitch 124 #[(1, 50), (3, 75), (11, 100), (12, 100), (24, 122)], 50) := by decide +kernel
theorem d_M_causeOf_56 : decode b_M_causeOf 56 = .ok (.aload_n 0, 1) := by decide +kernel
theorem d_M_causeOf_57 : decode b_M_causeOf 57 = .ok (.iload_n 1, 1) := by decide +kernel
theorem d_M_causeOf_58 : decode b_M_causeOf 58 = .ok (.invokevirtual 64, 3) := by decide +kernel
theorem d_M_causeOf_61 : decode b_M_causeOf 61 = .ok (.i2l, 1) := by decide +kernel
theorem d_M_causeOf_62 : decode b_M_causeOf 62 = .ok (.aload_n 0, 1) := by decide +kernel
theorem d_M_causeOf_63 : decode b_M_causeOf 63 = .ok (.iload_n 1, 1) := by decide +kernel
theorem d_M_causeOf_64 : decode b_M_causeOf 64 = .ok (.invokevirtual 67, 3) := by decide +kernel
theorem d_M_causeOf_67 : decode b_M_causeOf 67 = .ok (.i2l, 1) := by decide +kernel
theorem d_M_causeOf_68 : decode b_M_causeOf 68 = .ok (.ladd, 1) := by decide +kernel
theorem d_M_causeOf_69 : decode b_M_causeOf 69 = .ok (.invokestatic 70, 3) := by decide +kernel
theorem d_M_causeOf_72 : decode b_M_causeOf 72 = .ok (.ifCond .eq 7, 3) := by decide +kernel
theorem d_M_causeOf_75 : decode b_M_causeOf 75 = .ok (.iconst 0, 1) := by decide +kernel
theorem d_M_causeOf_76 : decode b_M_causeOf 76 = .ok (.goto 4, 3) := by decide +kernel
theorem d_M_causeOf_79 : decode b_M_causeOf 79 = .ok (.iconst 2, 1) := by decide +kernel
theorem d_M_causeOf_80 : decode b_M_causeOf 80 = .ok (.ireturn, 1) := by decide +kernel
theorem d_M_causeOf_81 : decode b_M_causeOf 81 = .ok (.aload_n 0, 1) := by decide +kernel
theorem d_M_causeOf_82 : decode b_M_causeOf 82 = .ok (.iload_n 1, 1) := by decide +kernel
theorem d_M_causeOf_83 : decode b_M_causeOf 83 = .ok (.invokevirtual 64, 3) := by decide +kernel
theorem d_M_causeOf_86 : decode b_M_causeOf 86 = .ok (.i2l, 1) := by decide +kernel
theorem d_M_causeOf_87 : decode b_M_causeOf 87 = .ok (.aload_n 0, 1) := by decide +kernel
theorem d_M_causeOf_88 : decode b_M_causeOf 88 = .ok (.iload_n 1, 1) := by decide +kernel
theorem d_M_causeOf_89 : decode b_M_causeOf 89 = .ok (.invokevirtual 67, 3) := by decide +kernel
theorem d_M_causeOf_92 : decode b_M_causeOf 92 = .ok (.i2l, 1) := by decide +kernel
theorem d_M_causeOf_93 : decode b_M_causeOf 93 = .ok (.lsub, 1) := by decide +kernel
theorem d_M_causeOf_94 : decode b_M_causeOf 94 = .ok (.invokestatic 70, 3) := by decide +kernel
theorem d_M_causeOf_97 : decode b_M_causeOf 97 = .ok (.ifCond .eq 7, 3) := by decide +kernel
theorem d_M_causeOf_100 : decode b_M_causeOf 100 = .ok (.iconst 0, 1) := by decide +kernel
theorem d_M_causeOf_101 : decode b_M_causeOf 101 = .ok (.goto 4, 3) := by decide +kernel
theorem d_M_causeOf_104 : decode b_M_causeOf 104 = .ok (.iconst 2, 1) := by decide +kernel
theorem d_M_causeOf_105 : decode b_M_causeOf 105 = .ok (.ireturn, 1) := by decide +kernel
theorem d_M_causeOf_106 : decode b_M_causeOf 106 = .ok (.aload_n 0, 1) := by decide +kernel
theorem d_M_causeOf_107 : decode b_M_causeOf 107 = .ok (.iload_n 1, 1) := by decide +kernel
theorem d_M_causeOf_108 : decode b_M_causeOf 108 = .ok (.invokevirtual 64, 3) := by decide +kernel
theorem d_M_causeOf_111 : decode b_M_causeOf 111 = .ok (.iload_n 1, 1) := by decide +kernel
theorem d_M_causeOf_112 : decode b_M_causeOf 112 = .ok (.invokestatic 74, 3) := by decide +kernel
theorem d_M_causeOf_115 : decode b_M_causeOf 115 = .ok (.iadd, 1) := by decide +kernel
theorem d_M_causeOf_116 : decode b_M_causeOf 116 = .ok (.invokestatic 77, 3) := by decide +kernel
theorem d_M_causeOf_119 : decode b_M_causeOf 119 = .ok (.ifCond .eq 7, 3) := by decide +kernel
theorem d_M_causeOf_122 : decode b_M_causeOf 122 = .ok (.iconst 0, 1) := by decide +kernel
theorem d_M_causeOf_123 : decode b_M_causeOf 123 = .ok (.goto 4, 3) := by decide +kernel
theorem d_M_causeOf_126 : decode b_M_causeOf 126 = .ok (.iconst 3, 1) := by decide +kernel
theorem d_M_causeOf_127 : decode b_M_causeOf 127 = .ok (.ireturn, 1) := by decide +kernel
theorem d_M_causeOf_128 : decode b_M_causeOf 128 = .ok (.iconst 4, 1) := by decide +kernel
theorem d_M_causeOf_129 : decode b_M_causeOf 129 = .ok (.ireturn, 1) := by decide +kernel
theorem d_M_causeOf_130 : decode b_M_causeOf 130 = .ok (.iload_n 2, 1) := by decide +kernel
theorem d_M_causeOf_131 : decode b_M_causeOf 131 = .ok (.bipush 24, 2) := by decide +kernel
theorem d_M_causeOf_133 : decode b_M_causeOf 133 = .ok (.if_icmp .le 7, 3) := by decide +kernel
theorem d_M_causeOf_136 : decode b_M_causeOf 136 = .ok (.iconst 5, 1) := by decide +kernel
theorem d_M_causeOf_137 : decode b_M_causeOf 137 = .ok (.goto 4, 3) := by decide +kernel
theorem d_M_causeOf_140 : decode b_M_causeOf 140 = .ok (.iconst 0, 1) := by decide +kernel
theorem d_M_causeOf_141 : decode b_M_causeOf 141 = .ok (.ireturn, 1) := by decide +kernel
theorem d_M_perform_0 : decode b_M_perform 0 = .ok (.iload_n 1, 1) := by decide +kernel
theorem d_M_perform_1 : decode b_M_perform 1 = .ok (.invokestatic 58, 3) := by decide +kernel
theorem d_M_perform_4 : decode b_M_perform 4 = .ok (.istore_n 2, 1) := by decide +kernel
theorem d_M_perform_5 : decode b_M_perform 5 = .ok (.iload_n 2, 1) := by decide +kernel
theorem d_M_perform_6 : decode b_M_perform 6 = .ok (.bipush 10, 2) := by decide +kernel
theorem d_M_perform_8 : decode b_M_perform 8 = .ok (.if_icmp .gt 11, 3) := by decide +kernel
theorem d_M_perform_11 : decode b_M_perform 11 = .ok (.aload_n 0, 1) := by decide +kernel
theorem d_M_perform_12 : decode b_M_perform 12 = .ok (.iload_n 1, 1) := by decide +kernel
theorem d_M_perform_13 : decode b_M_perform 13 = .ok (.invokevirtual 83, 3) := by decide +kernel
theorem d_M_perform_16 : decode b_M_perform 16 = .ok (.goto 56, 3) := by decide +kernel
theorem d_M_perform_19 : decode b_M_perform 19 = .ok (.iload_n 2, 1) := by decide +kernel
theorem d_M_perform_20 : decode b_M_perform 20 = .ok (.bipush 12, 2) := by decide +kernel
theorem d_M_perform_22 : decode b_M_perform 22 = .ok (.if_icmp .gt 11, 3) := by decide +kernel
theorem d_M_perform_25 : decode b_M_perform 25 = .ok (.aload_n 0, 1) := by decide +kernel
theorem d_M_perform_26 : decode b_M_perform 26 = .ok (.iload_n 1, 1) := by decide +kernel
theorem d_M_perform_27 : decode b_M_perform 27 = .ok (.invokevirtual 87, 3) := by decide +kernel
theorem d_M_perform_30 : decode b_M_perform 30 = .ok (.goto 42, 3) := by decide +kernel
theorem d_M_perform_33 : decode b_M_perform 33 = .ok (.iload_n 2, 1) := by decide +kernel
theorem d_M_perform_34 : decode b_M_perform 34 = .ok (.bipush 17, 2) := by decide +kernel
theorem d_M_perform_36 : decode b_M_perform 36 = .ok (.if_icmp .gt 11, 3) := by decide +kernel
theorem d_M_perform_39 : decode b_M_perform 39 = .ok (.aload_n 0, 1) := by decide +kernel
theorem d_M_perform_40 : decode b_M_perform 40 = .ok (.iload_n 1, 1) := by decide +kernel
theorem d_M_perform_41 : decode b_M_perform 41 = .ok (.invokevirtual 90, 3) := by decide +kernel
theorem d_M_perform_44 : decode b_M_perform 44 = .ok (.goto 28, 3) := by decide +kernel
theorem d_M_perform_47 : decode b_M_perform 47 = .ok (.iload_n 2, 1) := by decide +kernel
theorem d_M_perform_48 : decode b_M_perform 48 = .ok (.bipush 21, 2) := by decide +kernel
theorem d_M_perform_50 : decode b_M_perform 50 = .ok (.if_icmp .ne 17, 3) := by decide +kernel
theorem d_M_perform_53 : decode b_M_perform 53 = .ok (.aload_n 0, 1) := by decide +kernel
theorem d_M_perform_54 : decode b_M_perform 54 = .ok (.getfield 24, 3) := by decide +kernel
theorem d_M_perform_57 : decode b_M_perform 57 = .ok (.aload_n 0, 1) := by decide +kernel
theorem d_M_perform_58 : decode b_M_perform 58 = .ok (.getfield 28, 3) := by decide +kernel
theorem d_M_perform_61 : decode b_M_perform 61 = .ok (.invokevirtual 48, 3) := by decide +kernel
theorem d_M_perform_64 : decode b_M_perform 64 = .ok (.goto 8, 3) := by decide +kernel
theorem d_M_perform_67 : decode b_M_perform 67 = .ok (.aload_n 0, 1) := by decide +kernel
theorem d_M_perform_68 : decode b_M_perform 68 = .ok (.iload_n 1, 1) := by decide +kernel
theorem d_M_perform_69 : decode b_M_perform 69 = .ok (.invokevirtual 93, 3) := by decide +kernel
theorem d_M_perform_72 : decode b_M_perform 72 = .ok (.return_, 1) := by decide +kernel
theorem d_M_reckon_0 : decode b_M_reckon 0 = .ok (.iload_n 1, 1) := by decide +kernel
theorem d_M_reckon_1 : decode b_M_reckon 1 = .ok (.invokestatic 58, 3) := by decide +kernel
theorem d_M_reckon_4 : decode b_M_reckon 4 = .ok (.istore_n 2, 1) := by decide +kernel
theorem d_M_reckon_5 : decode b_M_reckon 5 = .ok (.aload_n 0, 1) := by decide +kernel
theorem d_M_reckon_6 : decode b_M_reckon 6 = .ok (.iload_n 1, 1) := by decide +kernel
theorem d_M_reckon_7 : decode b_M_reckon 7 = .ok (.invokevirtual 64, 3) := by decide +kernel
theorem d_M_reckon_10 : decode b_M_reckon 10 = .ok (.istore_n 3, 1) := by decide +kernel
theorem d_M_reckon_11 : decode b_M_reckon 11 = .ok (.aload_n 0, 1) := by decide +kernel
theorem d_M_reckon_12 : decode b_M_reckon 12 = .ok (.iload_n 1, 1) := by decide +kernel
theorem d_M_reckon_13 : decode b_M_reckon 13 = .ok (.invokevirtual 67, 3) := by decide +kernel
theorem d_M_reckon_16 : decode b_M_reckon 16 = .ok (.istore 4, 2) := by decide +kernel
theorem d_M_reckon_18 : decode b_M_reckon 18 = .ok (.iload_n 1, 1) := by decide +kernel
theorem d_M_reckon_19 : decode b_M_reckon 19 = .ok (.iload_n 3, 1) := by decide +kernel
theorem d_M_reckon_20 : decode b_M_reckon 20 = .ok (.iload 4, 2) := by decide +kernel
theorem d_M_reckon_22 : decode b_M_reckon 22 = .ok (.invokestatic 96, 3) := by decide +kernel
theorem d_M_reckon_25 : decode b_M_reckon 25 = .ok (.istore 5, 2) := by decide +kernel
theorem d_M_reckon_27 : decode b_M_reckon 27 = .ok (.iload_n 2, 1) := by decide +kernel
theorem d_M_reckon_28 : decode b_M_reckon 28 = .ok (.iconst 2, 1) := by decide +kernel
theorem d_M_reckon_29 : decode b_M_reckon 29 = .ok (.if_icmp .eq 14, 3) := by decide +kernel
theorem d_M_reckon_32 : decode b_M_reckon 32 = .ok (.iload_n 2, 1) := by decide +kernel
theorem d_M_reckon_33 : decode b_M_reckon 33 = .ok (.iconst 3, 1) := by decide +kernel
theorem d_M_reckon_34 : decode b_M_reckon 34 = .ok (.if_icmp .eq 9, 3) := by decide +kernel
theorem d_M_reckon_37 : decode b_M_reckon 37 = .ok (.iload_n 2, 1) := by decide +kernel
theorem d_M_reckon_38 : decode b_M_reckon 38 = .ok (.bipush 8, 2) := by decide +kernel
theorem d_M_reckon_40 : decode b_M_reckon 40 = .ok (.if_icmp .ne 7, 3) := by decide +kernel
theorem d_M_reckon_43 : decode b_M_reckon 43 = .ok (.iconst 1, 1) := by decide +kernel
theorem d_M_reckon_44 : decode b_M_reckon 44 = .ok (.goto 4, 3) := by decide +kernel
theorem d_M_reckon_47 : decode b_M_reckon 47 = .ok (.iconst 0, 1) := by decide +kernel
theorem d_M_reckon_48 : decode b_M_reckon 48 = .ok (.istore 6, 2) := by decide +kernel
theorem d_M_reckon_50 : decode b_M_reckon 50 = .ok (.iload 6, 2) := by decide +kernel
theorem d_M_reckon_52 : decode b_M_reckon 52 = .ok (.ifCond .eq 16, 3) := by decide +kernel
theorem d_M_reckon_55 : decode b_M_reckon 55 = .ok (.iload_n 1, 1) := by decide +kernel
theorem d_M_reckon_56 : decode b_M_reckon 56 = .ok (.invokestatic 100, 3) := by decide +kernel
theorem d_M_reckon_59 : decode b_M_reckon 59 = .ok (.iload_n 3, 1) := by decide +kernel
theorem d_M_reckon_60 : decode b_M_reckon 60 = .ok (.iload 4, 2) := by decide +kernel
theorem d_M_reckon_62 : decode b_M_reckon 62 = .ok (.invokestatic 103, 3) := by decide +kernel
theorem d_M_reckon_65 : decode b_M_reckon 65 = .ok (.goto 13, 3) := by decide +kernel
theorem d_M_reckon_68 : decode b_M_reckon 68 = .ok (.iload_n 1, 1) := by decide +kernel
theorem d_M_reckon_69 : decode b_M_reckon 69 = .ok (.invokestatic 100, 3) := by decide +kernel
theorem d_M_reckon_72 : decode b_M_reckon 72 = .ok (.iload 5, 2) := by decide +kernel
theorem d_M_reckon_74 : decode b_M_reckon 74 = .ok (.iconst 0, 1) := by decide +kernel
theorem d_M_reckon_75 : decode b_M_reckon 75 = .ok (.invokestatic 103, 3) := by decide +kernel
theorem d_M_reckon_78 : decode b_M_reckon 78 = .ok (.istore 7, 2) := by decide +kernel
theorem d_M_reckon_80 : decode b_M_reckon 80 = .ok (.aload_n 0, 1) := by decide +kernel
theorem d_M_reckon_81 : decode b_M_reckon 81 = .ok (.iload_n 1, 1) := by decide +kernel
theorem d_M_reckon_82 : decode b_M_reckon 82 = .ok (.iload 5, 2) := by decide +kernel
theorem d_M_reckon_84 : decode b_M_reckon 84 = .ok (.invokevirtual 109, 3) := by decide +kernel
theorem d_M_reckon_87 : decode b_M_reckon 87 = .ok (.aload_n 0, 1) := by decide +kernel
theorem d_M_reckon_88 : decode b_M_reckon 88 = .ok (.getfield 24, 3) := by decide +kernel
theorem d_M_reckon_91 : decode b_M_reckon 91 = .ok (.iload 7, 2) := by decide +kernel
theorem d_M_reckon_93 : decode b_M_reckon 93 = .ok (.invokevirtual 112, 3) := by decide +kernel
theorem d_M_reckon_96 : decode b_M_reckon 96 = .ok (.return_, 1) := by decide +kernel
theorem d_M_resultOf_0 : decode b_M_resultOf 0 = .ok (.iload_n 0, 1) := by decide +kernel
theorem d_M_resultOf_1 : decode b_M_resultOf 1 = .ok (.invokestatic 58, 3) := by decide +kernel
theorem d_M_resultOf_4 : decode b_M_resultOf 4 = .ok (.tableswitch 118 0 10 #[60, 60, 64, 64, 68, 72, 76, 80, 118, 86, 93], 60) := by decide +kernel
theorem d_M_resultOf_64 : decode b_M_resultOf 64 = .ok (.iload_n 1, 1) := by decide +kernel
theorem d_M_resultOf_65 : decode b_M_resultOf 65 = .ok (.iload_n 2, 1) := by decide +kernel
theorem d_M_resultOf_66 : decode b_M_resultOf 66 = .ok (.iadd, 1) := by decide +kernel
theorem d_M_resultOf_67 : decode b_M_resultOf 67 = .ok (.ireturn, 1) := by decide +kernel
theorem d_M_resultOf_68 : decode b_M_resultOf 68 = .ok (.iload_n 1, 1) := by decide +kernel
theorem d_M_resultOf_69 : decode b_M_resultOf 69 = .ok (.iload_n 2, 1) := by decide +kernel
theorem d_M_resultOf_70 : decode b_M_resultOf 70 = .ok (.isub, 1) := by decide +kernel
theorem d_M_resultOf_71 : decode b_M_resultOf 71 = .ok (.ireturn, 1) := by decide +kernel
theorem d_M_resultOf_72 : decode b_M_resultOf 72 = .ok (.iload_n 1, 1) := by decide +kernel
theorem d_M_resultOf_73 : decode b_M_resultOf 73 = .ok (.iload_n 2, 1) := by decide +kernel
theorem d_M_resultOf_74 : decode b_M_resultOf 74 = .ok (.iand, 1) := by decide +kernel
theorem d_M_resultOf_75 : decode b_M_resultOf 75 = .ok (.ireturn, 1) := by decide +kernel
theorem d_M_resultOf_76 : decode b_M_resultOf 76 = .ok (.iload_n 1, 1) := by decide +kernel
theorem d_M_resultOf_77 : decode b_M_resultOf 77 = .ok (.iload_n 2, 1) := by decide +kernel
theorem d_M_resultOf_78 : decode b_M_resultOf 78 = .ok (.ior, 1) := by decide +kernel
theorem d_M_resultOf_79 : decode b_M_resultOf 79 = .ok (.ireturn, 1) := by decide +kernel
theorem d_M_resultOf_80 : decode b_M_resultOf 80 = .ok (.iload_n 1, 1) := by decide +kernel
theorem d_M_resultOf_81 : decode b_M_resultOf 81 = .ok (.iload_n 2, 1) := by decide +kernel
theorem d_M_resultOf_82 : decode b_M_resultOf 82 = .ok (.ixor, 1) := by decide +kernel
theorem d_M_resultOf_83 : decode b_M_resultOf 83 = .ok (.ireturn, 1) := by decide +kernel
theorem d_M_resultOf_84 : decode b_M_resultOf 84 = .ok (.iload_n 1, 1) := by decide +kernel
theorem d_M_resultOf_85 : decode b_M_resultOf 85 = .ok (.iload_n 2, 1) := by decide +kernel
theorem d_M_resultOf_86 : decode b_M_resultOf 86 = .ok (.iconst (-1), 1) := by decide +kernel
theorem d_M_resultOf_87 : decode b_M_resultOf 87 = .ok (.ixor, 1) := by decide +kernel
theorem d_M_resultOf_88 : decode b_M_resultOf 88 = .ok (.iand, 1) := by decide +kernel
theorem d_M_resultOf_89 : decode b_M_resultOf 89 = .ok (.ireturn, 1) := by decide +kernel
theorem d_M_resultOf_90 : decode b_M_resultOf 90 = .ok (.iload_n 1, 1) := by decide +kernel
theorem d_M_resultOf_91 : decode b_M_resultOf 91 = .ok (.iload_n 0, 1) := by decide +kernel
theorem d_M_resultOf_92 : decode b_M_resultOf 92 = .ok (.invokestatic 74, 3) := by decide +kernel
theorem d_M_resultOf_95 : decode b_M_resultOf 95 = .ok (.iadd, 1) := by decide +kernel
theorem d_M_resultOf_96 : decode b_M_resultOf 96 = .ok (.ireturn, 1) := by decide +kernel
theorem d_M_resultOf_97 : decode b_M_resultOf 97 = .ok (.iload_n 1, 1) := by decide +kernel
theorem d_M_resultOf_98 : decode b_M_resultOf 98 = .ok (.iload_n 0, 1) := by decide +kernel
theorem d_M_resultOf_99 : decode b_M_resultOf 99 = .ok (.invokestatic 74, 3) := by decide +kernel
theorem d_M_resultOf_102 : decode b_M_resultOf 102 = .ok (.bipush 31, 2) := by decide +kernel
theorem d_M_resultOf_104 : decode b_M_resultOf 104 = .ok (.iand, 1) := by decide +kernel
theorem d_M_resultOf_105 : decode b_M_resultOf 105 = .ok (.iload_n 0, 1) := by decide +kernel
theorem d_M_resultOf_106 : decode b_M_resultOf 106 = .ok (.invokestatic 116, 3) := by decide +kernel
theorem d_M_resultOf_109 : decode b_M_resultOf 109 = .ok (.iconst 1, 1) := by decide +kernel
theorem d_M_resultOf_110 : decode b_M_resultOf 110 = .ok (.if_icmp .ne 7, 3) := by decide +kernel
theorem d_M_resultOf_113 : decode b_M_resultOf 113 = .ok (.iconst 1, 1) := by decide +kernel
theorem d_M_resultOf_114 : decode b_M_resultOf 114 = .ok (.goto 4, 3) := by decide +kernel
theorem d_M_resultOf_117 : decode b_M_resultOf 117 = .ok (.iconst 0, 1) := by decide +kernel
theorem d_M_resultOf_118 : decode b_M_resultOf 118 = .ok (.invokestatic 119, 3) := by decide +kernel
theorem d_M_resultOf_121 : decode b_M_resultOf 121 = .ok (.ireturn, 1) := by decide +kernel
theorem d_M_resultOf_122 : decode b_M_resultOf 122 = .ok (.iconst 0, 1) := by decide +kernel
theorem d_M_resultOf_123 : decode b_M_resultOf 123 = .ok (.ireturn, 1) := by decide +kernel
theorem d_M_shifted_0 : decode b_M_shifted 0 = .ok (.iload_n 2, 1) := by decide +kernel
theorem d_M_shifted_1 : decode b_M_shifted 1 = .ok (.ifCond .eq 9, 3) := by decide +kernel
theorem d_M_shifted_4 : decode b_M_shifted 4 = .ok (.iload_n 0, 1) := by decide +kernel
theorem d_M_shifted_5 : decode b_M_shifted 5 = .ok (.iload_n 1, 1) := by decide +kernel
theorem d_M_shifted_6 : decode b_M_shifted 6 = .ok (.iushr, 1) := by decide +kernel
theorem d_M_shifted_7 : decode b_M_shifted 7 = .ok (.goto 6, 3) := by decide +kernel
theorem d_M_shifted_10 : decode b_M_shifted 10 = .ok (.iload_n 0, 1) := by decide +kernel
theorem d_M_shifted_11 : decode b_M_shifted 11 = .ok (.iload_n 1, 1) := by decide +kernel
theorem d_M_shifted_12 : decode b_M_shifted 12 = .ok (.ishl, 1) := by decide +kernel
theorem d_M_shifted_13 : decode b_M_shifted 13 = .ok (.ireturn, 1) := by decide +kernel
theorem d_M_moveData_0 : decode b_M_moveData 0 = .ok (.aload_n 0, 1) := by decide +kernel
theorem d_M_moveData_1 : decode b_M_moveData 1 = .ok (.iload_n 1, 1) := by decide +kernel
theorem d_M_moveData_2 : decode b_M_moveData 2 = .ok (.invokevirtual 64, 3) := by decide +kernel
theorem d_M_moveData_5 : decode b_M_moveData 5 = .ok (.iload_n 1, 1) := by decide +kernel
theorem d_M_moveData_6 : decode b_M_moveData 6 = .ok (.invokestatic 74, 3) := by decide +kernel
theorem d_M_moveData_9 : decode b_M_moveData 9 = .ok (.iadd, 1) := by decide +kernel
theorem d_M_moveData_10 : decode b_M_moveData 10 = .ok (.istore_n 2, 1) := by decide +kernel
theorem d_M_moveData_11 : decode b_M_moveData 11 = .ok (.iload_n 2, 1) := by decide +kernel
theorem d_M_moveData_12 : decode b_M_moveData 12 = .ok (.invokestatic 77, 3) := by decide +kernel
theorem d_M_moveData_15 : decode b_M_moveData 15 = .ok (.ifCond .eq 47, 3) := by decide +kernel
theorem d_M_moveData_18 : decode b_M_moveData 18 = .ok (.aload_n 0, 1) := by decide +kernel
theorem d_M_moveData_19 : decode b_M_moveData 19 = .ok (.iload_n 1, 1) := by decide +kernel
theorem d_M_moveData_20 : decode b_M_moveData 20 = .ok (.invokevirtual 123, 3) := by decide +kernel
theorem d_M_moveData_23 : decode b_M_moveData 23 = .ok (.iload_n 2, 1) := by decide +kernel
theorem d_M_moveData_24 : decode b_M_moveData 24 = .ok (.invokestatic 126, 3) := by decide +kernel
theorem d_M_moveData_27 : decode b_M_moveData 27 = .ok (.istore_n 3, 1) := by decide +kernel
theorem d_M_moveData_28 : decode b_M_moveData 28 = .ok (.iload_n 1, 1) := by decide +kernel
theorem d_M_moveData_29 : decode b_M_moveData 29 = .ok (.invokestatic 58, 3) := by decide +kernel
theorem d_M_moveData_32 : decode b_M_moveData 32 = .ok (.bipush 11, 2) := by decide +kernel
theorem d_M_moveData_34 : decode b_M_moveData 34 = .ok (.if_icmp .ne 17, 3) := by decide +kernel
theorem d_M_moveData_37 : decode b_M_moveData 37 = .ok (.aload_n 0, 1) := by decide +kernel
theorem d_M_moveData_38 : decode b_M_moveData 38 = .ok (.iload_n 1, 1) := by decide +kernel
theorem d_M_moveData_39 : decode b_M_moveData 39 = .ok (.aload_n 0, 1) := by decide +kernel
theorem d_M_moveData_40 : decode b_M_moveData 40 = .ok (.getfield 18, 3) := by decide +kernel
theorem d_M_moveData_43 : decode b_M_moveData 43 = .ok (.iload_n 3, 1) := by decide +kernel
theorem d_M_moveData_44 : decode b_M_moveData 44 = .ok (.iaload, 1) := by decide +kernel
theorem d_M_moveData_45 : decode b_M_moveData 45 = .ok (.invokevirtual 109, 3) := by decide +kernel
theorem d_M_moveData_48 : decode b_M_moveData 48 = .ok (.goto 14, 3) := by decide +kernel
theorem d_M_moveData_51 : decode b_M_moveData 51 = .ok (.aload_n 0, 1) := by decide +kernel
theorem d_M_moveData_52 : decode b_M_moveData 52 = .ok (.getfield 18, 3) := by decide +kernel
theorem d_M_moveData_55 : decode b_M_moveData 55 = .ok (.iload_n 3, 1) := by decide +kernel
theorem d_M_moveData_56 : decode b_M_moveData 56 = .ok (.aload_n 0, 1) := by decide +kernel
theorem d_M_moveData_57 : decode b_M_moveData 57 = .ok (.iload_n 1, 1) := by decide +kernel
theorem d_M_moveData_58 : decode b_M_moveData 58 = .ok (.invokevirtual 129, 3) := by decide +kernel
theorem d_M_moveData_61 : decode b_M_moveData 61 = .ok (.iastore, 1) := by decide +kernel
theorem d_M_moveData_62 : decode b_M_moveData 62 = .ok (.aload_n 0, 1) := by decide +kernel
theorem d_M_moveData_63 : decode b_M_moveData 63 = .ok (.getfield 24, 3) := by decide +kernel
theorem d_M_moveData_66 : decode b_M_moveData 66 = .ok (.iconst 0, 1) := by decide +kernel
theorem d_M_moveData_67 : decode b_M_moveData 67 = .ok (.invokevirtual 112, 3) := by decide +kernel
theorem d_M_moveData_70 : decode b_M_moveData 70 = .ok (.return_, 1) := by decide +kernel
theorem d_M_branch_0 : decode b_M_branch 0 = .ok (.iload_n 1, 1) := by decide +kernel
theorem d_M_branch_1 : decode b_M_branch 1 = .ok (.invokestatic 58, 3) := by decide +kernel
theorem d_M_branch_4 : decode b_M_branch 4 = .ok (.istore_n 2, 1) := by decide +kernel
theorem d_M_branch_5 : decode b_M_branch 5 = .ok (.aload_n 0, 1) := by decide +kernel
theorem d_M_branch_6 : decode b_M_branch 6 = .ok (.iload_n 1, 1) := by decide +kernel
theorem d_M_branch_7 : decode b_M_branch 7 = .ok (.invokevirtual 129, 3) := by decide +kernel
theorem d_M_branch_10 : decode b_M_branch 10 = .ok (.aload_n 0, 1) := by decide +kernel
theorem d_M_branch_11 : decode b_M_branch 11 = .ok (.iload_n 1, 1) := by decide +kernel
theorem d_M_branch_12 : decode b_M_branch 12 = .ok (.invokevirtual 64, 3) := by decide +kernel
theorem d_M_branch_15 : decode b_M_branch 15 = .ok (.iadd, 1) := by decide +kernel
theorem d_M_branch_16 : decode b_M_branch 16 = .ok (.istore_n 3, 1) := by decide +kernel
theorem d_M_branch_17 : decode b_M_branch 17 = .ok (.aload_n 0, 1) := by decide +kernel
theorem d_M_branch_18 : decode b_M_branch 18 = .ok (.iload_n 1, 1) := by decide +kernel
theorem d_M_branch_19 : decode b_M_branch 19 = .ok (.iload_n 3, 1) := by decide +kernel
theorem d_M_branch_20 : decode b_M_branch 20 = .ok (.invokevirtual 132, 3) := by decide +kernel
theorem d_M_branch_23 : decode b_M_branch 23 = .ok (.istore 4, 2) := by decide +kernel
theorem d_M_branch_25 : decode b_M_branch 25 = .ok (.iload 4, 2) := by decide +kernel
theorem d_M_branch_27 : decode b_M_branch 27 = .ok (.ifCond .eq 11, 3) := by decide +kernel
theorem d_M_branch_30 : decode b_M_branch 30 = .ok (.aload_n 0, 1) := by decide +kernel
theorem d_M_branch_31 : decode b_M_branch 31 = .ok (.iload_n 1, 1) := by decide +kernel
theorem d_M_branch_32 : decode b_M_branch 32 = .ok (.invokevirtual 136, 3) := by decide +kernel
theorem d_M_branch_35 : decode b_M_branch 35 = .ok (.goto 13, 3) := by decide +kernel
theorem d_M_branch_38 : decode b_M_branch 38 = .ok (.aload_n 0, 1) := by decide +kernel
theorem d_M_branch_39 : decode b_M_branch 39 = .ok (.getfield 24, 3) := by decide +kernel
theorem d_M_branch_42 : decode b_M_branch 42 = .ok (.getfield 139, 3) := by decide +kernel
theorem d_M_branch_45 : decode b_M_branch 45 = .ok (.invokestatic 142, 3) := by decide +kernel
theorem d_M_branch_48 : decode b_M_branch 48 = .ok (.istore 5, 2) := by decide +kernel
theorem d_M_branch_50 : decode b_M_branch 50 = .ok (.iload_n 2, 1) := by decide +kernel
theorem d_M_branch_51 : decode b_M_branch 51 = .ok (.bipush 13, 2) := by decide +kernel
theorem d_M_branch_53 : decode b_M_branch 53 = .ok (.if_icmp .ne 24, 3) := by decide +kernel
theorem d_M_branch_56 : decode b_M_branch 56 = .ok (.aload_n 0, 1) := by decide +kernel
theorem d_M_branch_57 : decode b_M_branch 57 = .ok (.iload_n 1, 1) := by decide +kernel
theorem d_M_branch_58 : decode b_M_branch 58 = .ok (.aload_n 0, 1) := by decide +kernel
theorem d_M_branch_59 : decode b_M_branch 59 = .ok (.getfield 24, 3) := by decide +kernel
theorem d_M_branch_62 : decode b_M_branch 62 = .ok (.getfield 139, 3) := by decide +kernel
theorem d_M_branch_65 : decode b_M_branch 65 = .ok (.invokestatic 142, 3) := by decide +kernel
theorem d_M_branch_68 : decode b_M_branch 68 = .ok (.invokestatic 145, 3) := by decide +kernel
theorem d_M_branch_71 : decode b_M_branch 71 = .ok (.invokevirtual 109, 3) := by decide +kernel
theorem d_M_branch_74 : decode b_M_branch 74 = .ok (.goto 15, 3) := by decide +kernel
theorem d_M_branch_77 : decode b_M_branch 77 = .ok (.iload_n 2, 1) := by decide +kernel
theorem d_M_branch_78 : decode b_M_branch 78 = .ok (.bipush 15, 2) := by decide +kernel
theorem d_M_branch_80 : decode b_M_branch 80 = .ok (.if_icmp .ne 9, 3) := by decide +kernel
theorem d_M_branch_83 : decode b_M_branch 83 = .ok (.aload_n 0, 1) := by decide +kernel
theorem d_M_branch_84 : decode b_M_branch 84 = .ok (.iload_n 1, 1) := by decide +kernel
theorem d_M_branch_85 : decode b_M_branch 85 = .ok (.iload_n 3, 1) := by decide +kernel
theorem d_M_branch_86 : decode b_M_branch 86 = .ok (.invokevirtual 109, 3) := by decide +kernel
theorem d_M_branch_89 : decode b_M_branch 89 = .ok (.aload_n 0, 1) := by decide +kernel
theorem d_M_branch_90 : decode b_M_branch 90 = .ok (.getfield 24, 3) := by decide +kernel
theorem d_M_branch_93 : decode b_M_branch 93 = .ok (.iload 5, 2) := by decide +kernel
theorem d_M_branch_95 : decode b_M_branch 95 = .ok (.iload_n 1, 1) := by decide +kernel
theorem d_M_branch_96 : decode b_M_branch 96 = .ok (.iload 4, 2) := by decide +kernel
theorem d_M_branch_98 : decode b_M_branch 98 = .ok (.invokestatic 148, 3) := by decide +kernel
theorem d_M_branch_101 : decode b_M_branch 101 = .ok (.invokevirtual 152, 3) := by decide +kernel
theorem d_M_branch_104 : decode b_M_branch 104 = .ok (.return_, 1) := by decide +kernel
theorem d_M_takesBranch_0 : decode b_M_takesBranch 0 = .ok (.iload_n 1, 1) := by decide +kernel
theorem d_M_takesBranch_1 : decode b_M_takesBranch 1 = .ok (.invokestatic 58, 3) := by decide +kernel
theorem d_M_takesBranch_4 : decode b_M_takesBranch 4 = .ok (.lookupswitch 56 #[(14, 28), (15, 46)], 28) := by decide +kernel
theorem d_M_takesBranch_32 : decode b_M_takesBranch 32 = .ok (.iload_n 1, 1) := by decide +kernel
theorem d_M_takesBranch_33 : decode b_M_takesBranch 33 = .ok (.invokestatic 100, 3) := by decide +kernel
theorem d_M_takesBranch_36 : decode b_M_takesBranch 36 = .ok (.aload_n 0, 1) := by decide +kernel
theorem d_M_takesBranch_37 : decode b_M_takesBranch 37 = .ok (.iload_n 1, 1) := by decide +kernel
theorem d_M_takesBranch_38 : decode b_M_takesBranch 38 = .ok (.invokevirtual 64, 3) := by decide +kernel
theorem d_M_takesBranch_41 : decode b_M_takesBranch 41 = .ok (.aload_n 0, 1) := by decide +kernel
theorem d_M_takesBranch_42 : decode b_M_takesBranch 42 = .ok (.iload_n 1, 1) := by decide +kernel
theorem d_M_takesBranch_43 : decode b_M_takesBranch 43 = .ok (.invokevirtual 67, 3) := by decide +kernel
theorem d_M_takesBranch_46 : decode b_M_takesBranch 46 = .ok (.invokestatic 103, 3) := by decide +kernel
theorem d_M_takesBranch_49 : decode b_M_takesBranch 49 = .ok (.ireturn, 1) := by decide +kernel
theorem d_M_takesBranch_50 : decode b_M_takesBranch 50 = .ok (.iload_n 1, 1) := by decide +kernel
theorem d_M_takesBranch_51 : decode b_M_takesBranch 51 = .ok (.invokestatic 100, 3) := by decide +kernel
theorem d_M_takesBranch_54 : decode b_M_takesBranch 54 = .ok (.iload_n 2, 1) := by decide +kernel
theorem d_M_takesBranch_55 : decode b_M_takesBranch 55 = .ok (.iconst 0, 1) := by decide +kernel
theorem d_M_takesBranch_56 : decode b_M_takesBranch 56 = .ok (.invokestatic 103, 3) := by decide +kernel
theorem d_M_takesBranch_59 : decode b_M_takesBranch 59 = .ok (.ireturn, 1) := by decide +kernel
theorem d_M_takesBranch_60 : decode b_M_takesBranch 60 = .ok (.iconst 1, 1) := by decide +kernel
theorem d_M_takesBranch_61 : decode b_M_takesBranch 61 = .ok (.ireturn, 1) := by decide +kernel
theorem d_M_targetOf_0 : decode b_M_targetOf 0 = .ok (.aload_n 0, 1) := by decide +kernel
theorem d_M_targetOf_1 : decode b_M_targetOf 1 = .ok (.getfield 24, 3) := by decide +kernel
theorem d_M_targetOf_4 : decode b_M_targetOf 4 = .ok (.getfield 156, 3) := by decide +kernel
theorem d_M_targetOf_7 : decode b_M_targetOf 7 = .ok (.invokestatic 159, 3) := by decide +kernel
theorem d_M_targetOf_10 : decode b_M_targetOf 10 = .ok (.istore_n 2, 1) := by decide +kernel
theorem d_M_targetOf_11 : decode b_M_targetOf 11 = .ok (.iload_n 1, 1) := by decide +kernel
theorem d_M_targetOf_12 : decode b_M_targetOf 12 = .ok (.invokestatic 74, 3) := by decide +kernel
theorem d_M_targetOf_15 : decode b_M_targetOf 15 = .ok (.istore_n 3, 1) := by decide +kernel
theorem d_M_targetOf_16 : decode b_M_targetOf 16 = .ok (.iload_n 1, 1) := by decide +kernel
theorem d_M_targetOf_17 : decode b_M_targetOf 17 = .ok (.invokestatic 58, 3) := by decide +kernel
theorem d_M_targetOf_20 : decode b_M_targetOf 20 = .ok (.lookupswitch 56 #[(16, 28), (17, 40)], 28) := by decide +kernel
theorem d_M_targetOf_48 : decode b_M_targetOf 48 = .ok (.iload_n 2, 1) := by decide +kernel
theorem d_M_targetOf_49 : decode b_M_targetOf 49 = .ok (.aload_n 0, 1) := by decide +kernel
theorem d_M_targetOf_50 : decode b_M_targetOf 50 = .ok (.iload_n 1, 1) := by decide +kernel
theorem d_M_targetOf_51 : decode b_M_targetOf 51 = .ok (.invokevirtual 64, 3) := by decide +kernel
theorem d_M_targetOf_54 : decode b_M_targetOf 54 = .ok (.iload_n 3, 1) := by decide +kernel
theorem d_M_targetOf_55 : decode b_M_targetOf 55 = .ok (.iadd, 1) := by decide +kernel
theorem d_M_targetOf_56 : decode b_M_targetOf 56 = .ok (.invokestatic 52, 3) := by decide +kernel
theorem d_M_targetOf_59 : decode b_M_targetOf 59 = .ok (.ireturn, 1) := by decide +kernel
theorem d_M_targetOf_60 : decode b_M_targetOf 60 = .ok (.aload_n 0, 1) := by decide +kernel
theorem d_M_targetOf_61 : decode b_M_targetOf 61 = .ok (.iload_n 1, 1) := by decide +kernel
theorem d_M_targetOf_62 : decode b_M_targetOf 62 = .ok (.invokevirtual 123, 3) := by decide +kernel
theorem d_M_targetOf_65 : decode b_M_targetOf 65 = .ok (.aload_n 0, 1) := by decide +kernel
theorem d_M_targetOf_66 : decode b_M_targetOf 66 = .ok (.iload_n 1, 1) := by decide +kernel
theorem d_M_targetOf_67 : decode b_M_targetOf 67 = .ok (.invokevirtual 64, 3) := by decide +kernel
theorem d_M_targetOf_70 : decode b_M_targetOf 70 = .ok (.iload_n 3, 1) := by decide +kernel
theorem d_M_targetOf_71 : decode b_M_targetOf 71 = .ok (.iadd, 1) := by decide +kernel
theorem d_M_targetOf_72 : decode b_M_targetOf 72 = .ok (.invokestatic 52, 3) := by decide +kernel
theorem d_M_targetOf_75 : decode b_M_targetOf 75 = .ok (.ireturn, 1) := by decide +kernel
theorem d_M_targetOf_76 : decode b_M_targetOf 76 = .ok (.iload_n 2, 1) := by decide +kernel
theorem d_M_targetOf_77 : decode b_M_targetOf 77 = .ok (.aload_n 0, 1) := by decide +kernel
theorem d_M_targetOf_78 : decode b_M_targetOf 78 = .ok (.getfield 24, 3) := by decide +kernel
theorem d_M_targetOf_81 : decode b_M_targetOf 81 = .ok (.getfield 156, 3) := by decide +kernel
theorem d_M_targetOf_84 : decode b_M_targetOf 84 = .ok (.invokestatic 145, 3) := by decide +kernel
theorem d_M_targetOf_87 : decode b_M_targetOf 87 = .ok (.iconst 2, 1) := by decide +kernel
theorem d_M_targetOf_88 : decode b_M_targetOf 88 = .ok (.iadd, 1) := by decide +kernel
theorem d_M_targetOf_89 : decode b_M_targetOf 89 = .ok (.iload_n 3, 1) := by decide +kernel
theorem d_M_targetOf_90 : decode b_M_targetOf 90 = .ok (.iadd, 1) := by decide +kernel
theorem d_M_targetOf_91 : decode b_M_targetOf 91 = .ok (.invokestatic 52, 3) := by decide +kernel
theorem d_M_targetOf_94 : decode b_M_targetOf 94 = .ok (.ireturn, 1) := by decide +kernel
theorem d_M_branchNullifies_0 : decode b_M_branchNullifies 0 = .ok (.iload_n 0, 1) := by decide +kernel
theorem d_M_branchNullifies_1 : decode b_M_branchNullifies 1 = .ok (.invokestatic 58, 3) := by decide +kernel
theorem d_M_branchNullifies_4 : decode b_M_branchNullifies 4 = .ok (.istore_n 2, 1) := by decide +kernel
theorem d_M_branchNullifies_5 : decode b_M_branchNullifies 5 = .ok (.iload_n 0, 1) := by decide +kernel
theorem d_M_branchNullifies_6 : decode b_M_branchNullifies 6 = .ok (.invokestatic 116, 3) := by decide +kernel
theorem d_M_branchNullifies_9 : decode b_M_branchNullifies 9 = .ok (.ifCond .ne 5, 3) := by decide +kernel
theorem d_M_branchNullifies_12 : decode b_M_branchNullifies 12 = .ok (.iconst 0, 1) := by decide +kernel
theorem d_M_branchNullifies_13 : decode b_M_branchNullifies 13 = .ok (.ireturn, 1) := by decide +kernel
theorem d_M_branchNullifies_14 : decode b_M_branchNullifies 14 = .ok (.iload_n 2, 1) := by decide +kernel
theorem d_M_branchNullifies_15 : decode b_M_branchNullifies 15 = .ok (.bipush 14, 2) := by decide +kernel
theorem d_M_branchNullifies_17 : decode b_M_branchNullifies 17 = .ok (.if_icmp .eq 9, 3) := by decide +kernel
theorem d_M_branchNullifies_20 : decode b_M_branchNullifies 20 = .ok (.iload_n 2, 1) := by decide +kernel
theorem d_M_branchNullifies_21 : decode b_M_branchNullifies 21 = .ok (.bipush 15, 2) := by decide +kernel
theorem d_M_branchNullifies_23 : decode b_M_branchNullifies 23 = .ok (.if_icmp .ne 25, 3) := by decide +kernel
theorem d_M_branchNullifies_26 : decode b_M_branchNullifies 26 = .ok (.iload_n 0, 1) := by decide +kernel
theorem d_M_branchNullifies_27 : decode b_M_branchNullifies 27 = .ok (.invokestatic 74, 3) := by decide +kernel
theorem d_M_branchNullifies_30 : decode b_M_branchNullifies 30 = .ok (.ifCond .lt 7, 3) := by decide +kernel
theorem d_M_branchNullifies_33 : decode b_M_branchNullifies 33 = .ok (.iconst 1, 1) := by decide +kernel
theorem d_M_branchNullifies_34 : decode b_M_branchNullifies 34 = .ok (.goto 4, 3) := by decide +kernel
theorem d_M_branchNullifies_37 : decode b_M_branchNullifies 37 = .ok (.iconst 0, 1) := by decide +kernel
theorem d_M_branchNullifies_38 : decode b_M_branchNullifies 38 = .ok (.iload_n 1, 1) := by decide +kernel
theorem d_M_branchNullifies_39 : decode b_M_branchNullifies 39 = .ok (.if_icmp .ne 7, 3) := by decide +kernel
theorem d_M_branchNullifies_42 : decode b_M_branchNullifies 42 = .ok (.iconst 1, 1) := by decide +kernel
theorem d_M_branchNullifies_43 : decode b_M_branchNullifies 43 = .ok (.goto 4, 3) := by decide +kernel
theorem d_M_branchNullifies_46 : decode b_M_branchNullifies 46 = .ok (.iconst 0, 1) := by decide +kernel
theorem d_M_branchNullifies_47 : decode b_M_branchNullifies 47 = .ok (.ireturn, 1) := by decide +kernel
theorem d_M_branchNullifies_48 : decode b_M_branchNullifies 48 = .ok (.iconst 1, 1) := by decide +kernel
theorem d_M_branchNullifies_49 : decode b_M_branchNullifies 49 = .ok (.ireturn, 1) := by decide +kernel
theorem d_M_control_0 : decode b_M_control 0 = .ok (.iload_n 1, 1) := by decide +kernel
theorem d_M_control_1 : decode b_M_control 1 = .ok (.invokestatic 58, 3) := by decide +kernel
theorem d_M_control_4 : decode b_M_control 4 = .ok (.tableswitch 130 18 23 #[40, 59, 72, 130, 98, 114], 40) := by decide +kernel
theorem d_M_control_44 : decode b_M_control 44 = .ok (.aload_n 0, 1) := by decide +kernel
theorem d_M_control_45 : decode b_M_control 45 = .ok (.getfield 15, 3) := by decide +kernel
theorem d_M_control_48 : decode b_M_control 48 = .ok (.iload_n 1, 1) := by decide +kernel
theorem d_M_control_49 : decode b_M_control 49 = .ok (.invokestatic 162, 3) := by decide +kernel
theorem d_M_control_52 : decode b_M_control 52 = .ok (.aload_n 0, 1) := by decide +kernel
theorem d_M_control_53 : decode b_M_control 53 = .ok (.iload_n 1, 1) := by decide +kernel
theorem d_M_control_54 : decode b_M_control 54 = .ok (.invokevirtual 64, 3) := by decide +kernel
theorem d_M_control_57 : decode b_M_control 57 = .ok (.iconst 3, 1) := by decide +kernel
theorem d_M_control_58 : decode b_M_control 58 = .ok (.iand, 1) := by decide +kernel
theorem d_M_control_59 : decode b_M_control 59 = .ok (.iastore, 1) := by decide +kernel
theorem d_M_control_60 : decode b_M_control 60 = .ok (.goto 74, 3) := by decide +kernel
theorem d_M_control_63 : decode b_M_control 63 = .ok (.aload_n 0, 1) := by decide +kernel
theorem d_M_control_64 : decode b_M_control 64 = .ok (.iload_n 1, 1) := by decide +kernel
theorem d_M_control_65 : decode b_M_control 65 = .ok (.aload_n 0, 1) := by decide +kernel
theorem d_M_control_66 : decode b_M_control 66 = .ok (.iload_n 1, 1) := by decide +kernel
theorem d_M_control_67 : decode b_M_control 67 = .ok (.invokevirtual 123, 3) := by decide +kernel
theorem d_M_control_70 : decode b_M_control 70 = .ok (.invokevirtual 109, 3) := by decide +kernel
theorem d_M_control_73 : decode b_M_control 73 = .ok (.goto 61, 3) := by decide +kernel
theorem d_M_control_76 : decode b_M_control 76 = .ok (.aload_n 0, 1) := by decide +kernel
theorem d_M_control_77 : decode b_M_control 77 = .ok (.iload_n 1, 1) := by decide +kernel
theorem d_M_control_78 : decode b_M_control 78 = .ok (.aload_n 0, 1) := by decide +kernel
theorem d_M_control_79 : decode b_M_control 79 = .ok (.getfield 24, 3) := by decide +kernel
theorem d_M_control_82 : decode b_M_control 82 = .ok (.getfield 165, 3) := by decide +kernel
theorem d_M_control_85 : decode b_M_control 85 = .ok (.invokevirtual 109, 3) := by decide +kernel
theorem d_M_control_88 : decode b_M_control 88 = .ok (.aload_n 0, 1) := by decide +kernel
theorem d_M_control_89 : decode b_M_control 89 = .ok (.getfield 24, 3) := by decide +kernel
theorem d_M_control_92 : decode b_M_control 92 = .ok (.iload_n 1, 1) := by decide +kernel
theorem d_M_control_93 : decode b_M_control 93 = .ok (.invokestatic 116, 3) := by decide +kernel
theorem d_M_control_96 : decode b_M_control 96 = .ok (.putfield 165, 3) := by decide +kernel
theorem d_M_control_99 : decode b_M_control 99 = .ok (.goto 35, 3) := by decide +kernel
theorem d_M_control_102 : decode b_M_control 102 = .ok (.aload_n 0, 1) := by decide +kernel
theorem d_M_control_103 : decode b_M_control 103 = .ok (.iload_n 1, 1) := by decide +kernel
theorem d_M_control_104 : decode b_M_control 104 = .ok (.aload_n 0, 1) := by decide +kernel
theorem d_M_control_105 : decode b_M_control 105 = .ok (.iload_n 1, 1) := by decide +kernel
theorem d_M_control_106 : decode b_M_control 106 = .ok (.invokestatic 74, 3) := by decide +kernel
theorem d_M_control_109 : decode b_M_control 109 = .ok (.invokevirtual 168, 3) := by decide +kernel
theorem d_M_control_112 : decode b_M_control 112 = .ok (.invokevirtual 109, 3) := by decide +kernel
theorem d_M_control_115 : decode b_M_control 115 = .ok (.goto 19, 3) := by decide +kernel
theorem d_M_control_118 : decode b_M_control 118 = .ok (.aload_n 0, 1) := by decide +kernel
theorem d_M_control_119 : decode b_M_control 119 = .ok (.iload_n 1, 1) := by decide +kernel
theorem d_M_control_120 : decode b_M_control 120 = .ok (.invokestatic 74, 3) := by decide +kernel
theorem d_M_control_123 : decode b_M_control 123 = .ok (.aload_n 0, 1) := by decide +kernel
theorem d_M_control_124 : decode b_M_control 124 = .ok (.iload_n 1, 1) := by decide +kernel
theorem d_M_control_125 : decode b_M_control 125 = .ok (.invokevirtual 64, 3) := by decide +kernel
theorem d_M_control_128 : decode b_M_control 128 = .ok (.invokevirtual 171, 3) := by decide +kernel
theorem d_M_control_131 : decode b_M_control 131 = .ok (.goto 3, 3) := by decide +kernel
theorem d_M_control_134 : decode b_M_control 134 = .ok (.aload_n 0, 1) := by decide +kernel
theorem d_M_control_135 : decode b_M_control 135 = .ok (.getfield 24, 3) := by decide +kernel
theorem d_M_control_138 : decode b_M_control 138 = .ok (.iconst 0, 1) := by decide +kernel
theorem d_M_control_139 : decode b_M_control 139 = .ok (.invokevirtual 112, 3) := by decide +kernel
theorem d_M_control_142 : decode b_M_control 142 = .ok (.return_, 1) := by decide +kernel
theorem d_M_savedThing_0 : decode b_M_savedThing 0 = .ok (.iload_n 1, 1) := by decide +kernel
theorem d_M_savedThing_1 : decode b_M_savedThing 1 = .ok (.tableswitch 106 0 5 #[39, 50, 61, 72, 83, 101], 39) := by decide +kernel
theorem d_M_savedThing_40 : decode b_M_savedThing 40 = .ok (.aload_n 0, 1) := by decide +kernel
theorem d_M_savedThing_41 : decode b_M_savedThing 41 = .ok (.getfield 28, 3) := by decide +kernel
theorem d_M_savedThing_44 : decode b_M_savedThing 44 = .ok (.getfield 156, 3) := by decide +kernel
theorem d_M_savedThing_47 : decode b_M_savedThing 47 = .ok (.invokestatic 145, 3) := by decide +kernel
theorem d_M_savedThing_50 : decode b_M_savedThing 50 = .ok (.ireturn, 1) := by decide +kernel
theorem d_M_savedThing_51 : decode b_M_savedThing 51 = .ok (.aload_n 0, 1) := by decide +kernel
theorem d_M_savedThing_52 : decode b_M_savedThing 52 = .ok (.getfield 28, 3) := by decide +kernel
theorem d_M_savedThing_55 : decode b_M_savedThing 55 = .ok (.getfield 139, 3) := by decide +kernel
theorem d_M_savedThing_58 : decode b_M_savedThing 58 = .ok (.invokestatic 145, 3) := by decide +kernel
theorem d_M_savedThing_61 : decode b_M_savedThing 61 = .ok (.ireturn, 1) := by decide +kernel
theorem d_M_savedThing_62 : decode b_M_savedThing 62 = .ok (.aload_n 0, 1) := by decide +kernel
theorem d_M_savedThing_63 : decode b_M_savedThing 63 = .ok (.getfield 28, 3) := by decide +kernel
theorem d_M_savedThing_66 : decode b_M_savedThing 66 = .ok (.getfield 156, 3) := by decide +kernel
theorem d_M_savedThing_69 : decode b_M_savedThing 69 = .ok (.invokestatic 159, 3) := by decide +kernel
theorem d_M_savedThing_72 : decode b_M_savedThing 72 = .ok (.ireturn, 1) := by decide +kernel
theorem d_M_savedThing_73 : decode b_M_savedThing 73 = .ok (.aload_n 0, 1) := by decide +kernel
theorem d_M_savedThing_74 : decode b_M_savedThing 74 = .ok (.getfield 28, 3) := by decide +kernel
theorem d_M_savedThing_77 : decode b_M_savedThing 77 = .ok (.getfield 139, 3) := by decide +kernel
theorem d_M_savedThing_80 : decode b_M_savedThing 80 = .ok (.invokestatic 159, 3) := by decide +kernel
theorem d_M_savedThing_83 : decode b_M_savedThing 83 = .ok (.ireturn, 1) := by decide +kernel
theorem d_M_savedThing_84 : decode b_M_savedThing 84 = .ok (.aload_n 0, 1) := by decide +kernel
theorem d_M_savedThing_85 : decode b_M_savedThing 85 = .ok (.getfield 28, 3) := by decide +kernel
theorem d_M_savedThing_88 : decode b_M_savedThing 88 = .ok (.getfield 174, 3) := by decide +kernel
theorem d_M_savedThing_91 : decode b_M_savedThing 91 = .ok (.iconst 2, 1) := by decide +kernel
theorem d_M_savedThing_92 : decode b_M_savedThing 92 = .ok (.aload_n 0, 1) := by decide +kernel
theorem d_M_savedThing_93 : decode b_M_savedThing 93 = .ok (.getfield 28, 3) := by decide +kernel
theorem d_M_savedThing_96 : decode b_M_savedThing 96 = .ok (.getfield 165, 3) := by decide +kernel
theorem d_M_savedThing_99 : decode b_M_savedThing 99 = .ok (.imul, 1) := by decide +kernel
theorem d_M_savedThing_100 : decode b_M_savedThing 100 = .ok (.iadd, 1) := by decide +kernel
theorem d_M_savedThing_101 : decode b_M_savedThing 101 = .ok (.ireturn, 1) := by decide +kernel
theorem d_M_savedThing_102 : decode b_M_savedThing 102 = .ok (.aload_n 0, 1) := by decide +kernel
theorem d_M_savedThing_103 : decode b_M_savedThing 103 = .ok (.getfield 31, 3) := by decide +kernel
theorem d_M_savedThing_106 : decode b_M_savedThing 106 = .ok (.ireturn, 1) := by decide +kernel
theorem d_M_savedThing_107 : decode b_M_savedThing 107 = .ok (.iconst 0, 1) := by decide +kernel
theorem d_M_savedThing_108 : decode b_M_savedThing 108 = .ok (.ireturn, 1) := by decide +kernel
theorem d_M_setSavedThing_0 : decode b_M_setSavedThing 0 = .ok (.iload_n 1, 1) := by decide +kernel
theorem d_M_setSavedThing_1 : decode b_M_setSavedThing 1 = .ok (.tableswitch 156 0 4 #[35, 59, 83, 107, 131], 35) := by decide +kernel
theorem d_M_setSavedThing_36 : decode b_M_setSavedThing 36 = .ok (.aload_n 0, 1) := by decide +kernel
theorem d_M_setSavedThing_37 : decode b_M_setSavedThing 37 = .ok (.getfield 28, 3) := by decide +kernel
theorem d_M_setSavedThing_40 : decode b_M_setSavedThing 40 = .ok (.aload_n 0, 1) := by decide +kernel
theorem d_M_setSavedThing_41 : decode b_M_setSavedThing 41 = .ok (.getfield 28, 3) := by decide +kernel
theorem d_M_setSavedThing_44 : decode b_M_setSavedThing 44 = .ok (.getfield 156, 3) := by decide +kernel
theorem d_M_setSavedThing_47 : decode b_M_setSavedThing 47 = .ok (.invokestatic 159, 3) := by decide +kernel
theorem d_M_setSavedThing_50 : decode b_M_setSavedThing 50 = .ok (.iload_n 2, 1) := by decide +kernel
theorem d_M_setSavedThing_51 : decode b_M_setSavedThing 51 = .ok (.invokestatic 52, 3) := by decide +kernel
theorem d_M_setSavedThing_54 : decode b_M_setSavedThing 54 = .ok (.putfield 156, 3) := by decide +kernel
theorem d_M_setSavedThing_57 : decode b_M_setSavedThing 57 = .ok (.goto 100, 3) := by decide +kernel
theorem d_M_setSavedThing_60 : decode b_M_setSavedThing 60 = .ok (.aload_n 0, 1) := by decide +kernel
theorem d_M_setSavedThing_61 : decode b_M_setSavedThing 61 = .ok (.getfield 28, 3) := by decide +kernel
theorem d_M_setSavedThing_64 : decode b_M_setSavedThing 64 = .ok (.aload_n 0, 1) := by decide +kernel
theorem d_M_setSavedThing_65 : decode b_M_setSavedThing 65 = .ok (.getfield 28, 3) := by decide +kernel
theorem d_M_setSavedThing_68 : decode b_M_setSavedThing 68 = .ok (.getfield 139, 3) := by decide +kernel
theorem d_M_setSavedThing_71 : decode b_M_setSavedThing 71 = .ok (.invokestatic 159, 3) := by decide +kernel
theorem d_M_setSavedThing_74 : decode b_M_setSavedThing 74 = .ok (.iload_n 2, 1) := by decide +kernel
theorem d_M_setSavedThing_75 : decode b_M_setSavedThing 75 = .ok (.invokestatic 52, 3) := by decide +kernel
theorem d_M_setSavedThing_78 : decode b_M_setSavedThing 78 = .ok (.putfield 139, 3) := by decide +kernel
theorem d_M_setSavedThing_81 : decode b_M_setSavedThing 81 = .ok (.goto 76, 3) := by decide +kernel
theorem d_M_setSavedThing_84 : decode b_M_setSavedThing 84 = .ok (.aload_n 0, 1) := by decide +kernel
theorem d_M_setSavedThing_85 : decode b_M_setSavedThing 85 = .ok (.getfield 28, 3) := by decide +kernel
theorem d_M_setSavedThing_88 : decode b_M_setSavedThing 88 = .ok (.iload_n 2, 1) := by decide +kernel
theorem d_M_setSavedThing_89 : decode b_M_setSavedThing 89 = .ok (.aload_n 0, 1) := by decide +kernel
theorem d_M_setSavedThing_90 : decode b_M_setSavedThing 90 = .ok (.getfield 28, 3) := by decide +kernel
theorem d_M_setSavedThing_93 : decode b_M_setSavedThing 93 = .ok (.getfield 156, 3) := by decide +kernel
theorem d_M_setSavedThing_96 : decode b_M_setSavedThing 96 = .ok (.invokestatic 145, 3) := by decide +kernel
theorem d_M_setSavedThing_99 : decode b_M_setSavedThing 99 = .ok (.invokestatic 52, 3) := by decide +kernel
theorem d_M_setSavedThing_102 : decode b_M_setSavedThing 102 = .ok (.putfield 156, 3) := by decide +kernel
theorem d_M_setSavedThing_105 : decode b_M_setSavedThing 105 = .ok (.goto 52, 3) := by decide +kernel
theorem d_M_setSavedThing_108 : decode b_M_setSavedThing 108 = .ok (.aload_n 0, 1) := by decide +kernel
theorem d_M_setSavedThing_109 : decode b_M_setSavedThing 109 = .ok (.getfield 28, 3) := by decide +kernel
theorem d_M_setSavedThing_112 : decode b_M_setSavedThing 112 = .ok (.iload_n 2, 1) := by decide +kernel
theorem d_M_setSavedThing_113 : decode b_M_setSavedThing 113 = .ok (.aload_n 0, 1) := by decide +kernel
theorem d_M_setSavedThing_114 : decode b_M_setSavedThing 114 = .ok (.getfield 28, 3) := by decide +kernel
theorem d_M_setSavedThing_117 : decode b_M_setSavedThing 117 = .ok (.getfield 139, 3) := by decide +kernel
theorem d_M_setSavedThing_120 : decode b_M_setSavedThing 120 = .ok (.invokestatic 145, 3) := by decide +kernel
theorem d_M_setSavedThing_123 : decode b_M_setSavedThing 123 = .ok (.invokestatic 52, 3) := by decide +kernel
theorem d_M_setSavedThing_126 : decode b_M_setSavedThing 126 = .ok (.putfield 139, 3) := by decide +kernel
theorem d_M_setSavedThing_129 : decode b_M_setSavedThing 129 = .ok (.goto 28, 3) := by decide +kernel
theorem d_M_setSavedThing_132 : decode b_M_setSavedThing 132 = .ok (.aload_n 0, 1) := by decide +kernel
theorem d_M_setSavedThing_133 : decode b_M_setSavedThing 133 = .ok (.getfield 28, 3) := by decide +kernel
theorem d_M_setSavedThing_136 : decode b_M_setSavedThing 136 = .ok (.iload_n 2, 1) := by decide +kernel
theorem d_M_setSavedThing_137 : decode b_M_setSavedThing 137 = .ok (.iconst 1, 1) := by decide +kernel
theorem d_M_setSavedThing_138 : decode b_M_setSavedThing 138 = .ok (.iand, 1) := by decide +kernel
theorem d_M_setSavedThing_139 : decode b_M_setSavedThing 139 = .ok (.putfield 174, 3) := by decide +kernel
theorem d_M_setSavedThing_142 : decode b_M_setSavedThing 142 = .ok (.aload_n 0, 1) := by decide +kernel
theorem d_M_setSavedThing_143 : decode b_M_setSavedThing 143 = .ok (.getfield 28, 3) := by decide +kernel
theorem d_M_setSavedThing_146 : decode b_M_setSavedThing 146 = .ok (.iload_n 2, 1) := by decide +kernel
theorem d_M_setSavedThing_147 : decode b_M_setSavedThing 147 = .ok (.iconst 1, 1) := by decide +kernel
theorem d_M_setSavedThing_148 : decode b_M_setSavedThing 148 = .ok (.iushr, 1) := by decide +kernel
theorem d_M_setSavedThing_149 : decode b_M_setSavedThing 149 = .ok (.iconst 1, 1) := by decide +kernel
theorem d_M_setSavedThing_150 : decode b_M_setSavedThing 150 = .ok (.iand, 1) := by decide +kernel
theorem d_M_setSavedThing_151 : decode b_M_setSavedThing 151 = .ok (.putfield 165, 3) := by decide +kernel
theorem d_M_setSavedThing_154 : decode b_M_setSavedThing 154 = .ok (.goto 3, 3) := by decide +kernel
theorem d_M_setSavedThing_157 : decode b_M_setSavedThing 157 = .ok (.return_, 1) := by decide +kernel
theorem d_M_valueA_0 : decode b_M_valueA 0 = .ok (.aload_n 0, 1) := by decide +kernel
theorem d_M_valueA_1 : decode b_M_valueA 1 = .ok (.getfield 9, 3) := by decide +kernel
theorem d_M_valueA_4 : decode b_M_valueA 4 = .ok (.iload_n 1, 1) := by decide +kernel
theorem d_M_valueA_5 : decode b_M_valueA 5 = .ok (.invokestatic 177, 3) := by decide +kernel
theorem d_M_valueA_8 : decode b_M_valueA 8 = .ok (.iaload, 1) := by decide +kernel
theorem d_M_valueA_9 : decode b_M_valueA 9 = .ok (.ireturn, 1) := by decide +kernel
theorem d_M_valueB_0 : decode b_M_valueB 0 = .ok (.aload_n 0, 1) := by decide +kernel
theorem d_M_valueB_1 : decode b_M_valueB 1 = .ok (.getfield 9, 3) := by decide +kernel
theorem d_M_valueB_4 : decode b_M_valueB 4 = .ok (.iload_n 1, 1) := by decide +kernel
theorem d_M_valueB_5 : decode b_M_valueB 5 = .ok (.invokestatic 180, 3) := by decide +kernel
theorem d_M_valueB_8 : decode b_M_valueB 8 = .ok (.iaload, 1) := by decide +kernel
theorem d_M_valueB_9 : decode b_M_valueB 9 = .ok (.ireturn, 1) := by decide +kernel
theorem d_M_valueT_0 : decode b_M_valueT 0 = .ok (.aload_n 0, 1) := by decide +kernel
theorem d_M_valueT_1 : decode b_M_valueT 1 = .ok (.getfield 9, 3) := by decide +kernel
theorem d_M_valueT_4 : decode b_M_valueT 4 = .ok (.iload_n 1, 1) := by decide +kernel
theorem d_M_valueT_5 : decode b_M_valueT 5 = .ok (.invokestatic 183, 3) := by decide +kernel
theorem d_M_valueT_8 : decode b_M_valueT 8 = .ok (.iaload, 1) := by decide +kernel
theorem d_M_valueT_9 : decode b_M_valueT 9 = .ok (.ireturn, 1) := by decide +kernel
theorem d_M_valueS_0 : decode b_M_valueS 0 = .ok (.aload_n 0, 1) := by decide +kernel
theorem d_M_valueS_1 : decode b_M_valueS 1 = .ok (.getfield 15, 3) := by decide +kernel
theorem d_M_valueS_4 : decode b_M_valueS 4 = .ok (.iload_n 1, 1) := by decide +kernel
theorem d_M_valueS_5 : decode b_M_valueS 5 = .ok (.invokestatic 162, 3) := by decide +kernel
theorem d_M_valueS_8 : decode b_M_valueS 8 = .ok (.iaload, 1) := by decide +kernel
theorem d_M_valueS_9 : decode b_M_valueS 9 = .ok (.ireturn, 1) := by decide +kernel
theorem d_M_setT_0 : decode b_M_setT 0 = .ok (.iload_n 1, 1) := by decide +kernel
theorem d_M_setT_1 : decode b_M_setT 1 = .ok (.invokestatic 183, 3) := by decide +kernel
theorem d_M_setT_4 : decode b_M_setT 4 = .ok (.istore_n 3, 1) := by decide +kernel
theorem d_M_setT_5 : decode b_M_setT 5 = .ok (.iload_n 3, 1) := by decide +kernel
theorem d_M_setT_6 : decode b_M_setT 6 = .ok (.ifCond .eq 10, 3) := by decide +kernel
theorem d_M_setT_9 : decode b_M_setT 9 = .ok (.aload_n 0, 1) := by decide +kernel
theorem d_M_setT_10 : decode b_M_setT 10 = .ok (.getfield 9, 3) := by decide +kernel
theorem d_M_setT_13 : decode b_M_setT 13 = .ok (.iload_n 3, 1) := by decide +kernel
theorem d_M_setT_14 : decode b_M_setT 14 = .ok (.iload_n 2, 1) := by decide +kernel
theorem d_M_setT_15 : decode b_M_setT 15 = .ok (.iastore, 1) := by decide +kernel
theorem d_M_setT_16 : decode b_M_setT 16 = .ok (.return_, 1) := by decide +kernel
theorem d_M_isInt_0 : decode b_M_isInt 0 = .ok (.lload_n 0, 1) := by decide +kernel
theorem d_M_isInt_1 : decode b_M_isInt 1 = .ok (.lload_n 0, 1) := by decide +kernel
theorem d_M_isInt_2 : decode b_M_isInt 2 = .ok (.l2i, 1) := by decide +kernel
theorem d_M_isInt_3 : decode b_M_isInt 3 = .ok (.i2l, 1) := by decide +kernel
theorem d_M_isInt_4 : decode b_M_isInt 4 = .ok (.lcmp, 1) := by decide +kernel
theorem d_M_isInt_5 : decode b_M_isInt 5 = .ok (.ifCond .ne 7, 3) := by decide +kernel
theorem d_M_isInt_8 : decode b_M_isInt 8 = .ok (.iconst 1, 1) := by decide +kernel
theorem d_M_isInt_9 : decode b_M_isInt 9 = .ok (.goto 4, 3) := by decide +kernel
theorem d_M_isInt_12 : decode b_M_isInt 12 = .ok (.iconst 0, 1) := by decide +kernel
theorem d_M_isInt_13 : decode b_M_isInt 13 = .ok (.ireturn, 1) := by decide +kernel
