theorem d_X_init_0 : decode b_X_init 0 = .ok (.aload_n 0, 1) := by decide +kernel
theorem d_X_init_1 : decode b_X_init 1 = .ok (.invokespecial 1, 3) := by decide +kernel
theorem d_X_init_4 : decode b_X_init 4 = .ok (.aload_n 0, 1) := by decide +kernel
theorem d_X_init_5 : decode b_X_init 5 = .ok (.bipush 86, 2) := by decide +kernel
theorem d_X_init_7 : decode b_X_init 7 = .ok (.newarray .int, 2) := by decide +kernel
theorem d_X_init_9 : decode b_X_init 9 = .ok (.putfield 7, 3) := by decide +kernel
theorem d_X_init_12 : decode b_X_init 12 = .ok (.aload_n 0, 1) := by decide +kernel
theorem d_X_init_13 : decode b_X_init 13 = .ok (.bipush 86, 2) := by decide +kernel
theorem d_X_init_15 : decode b_X_init 15 = .ok (.newarray .int, 2) := by decide +kernel
theorem d_X_init_17 : decode b_X_init 17 = .ok (.putfield 13, 3) := by decide +kernel
theorem d_X_init_20 : decode b_X_init 20 = .ok (.aload_n 0, 1) := by decide +kernel
theorem d_X_init_21 : decode b_X_init 21 = .ok (.sipush 128, 3) := by decide +kernel
theorem d_X_init_24 : decode b_X_init 24 = .ok (.newarray .int, 2) := by decide +kernel
theorem d_X_init_26 : decode b_X_init 26 = .ok (.putfield 16, 3) := by decide +kernel
theorem d_X_init_29 : decode b_X_init 29 = .ok (.aload_n 0, 1) := by decide +kernel
theorem d_X_init_30 : decode b_X_init 30 = .ok (.bipush 7, 2) := by decide +kernel
theorem d_X_init_32 : decode b_X_init 32 = .ok (.newarray .int, 2) := by decide +kernel
theorem d_X_init_34 : decode b_X_init 34 = .ok (.putfield 19, 3) := by decide +kernel
theorem d_X_init_37 : decode b_X_init 37 = .ok (.aload_n 0, 1) := by decide +kernel
theorem d_X_init_38 : decode b_X_init 38 = .ok (.getfield 7, 3) := by decide +kernel
theorem d_X_init_41 : decode b_X_init 41 = .ok (.iconst 1, 1) := by decide +kernel
theorem d_X_init_42 : decode b_X_init 42 = .ok (.iconst 1, 1) := by decide +kernel
theorem d_X_init_43 : decode b_X_init 43 = .ok (.iastore, 1) := by decide +kernel
theorem d_X_init_44 : decode b_X_init 44 = .ok (.return_, 1) := by decide +kernel
theorem d_X_isIn_0 : decode b_X_isIn 0 = .ok (.iload_n 0, 1) := by decide +kernel
theorem d_X_isIn_1 : decode b_X_isIn 1 = .ok (.ifCond .lt 12, 3) := by decide +kernel
theorem d_X_isIn_4 : decode b_X_isIn 4 = .ok (.iload_n 0, 1) := by decide +kernel
theorem d_X_isIn_5 : decode b_X_isIn 5 = .ok (.iload_n 1, 1) := by decide +kernel
theorem d_X_isIn_6 : decode b_X_isIn 6 = .ok (.if_icmp .ge 7, 3) := by decide +kernel
theorem d_X_isIn_9 : decode b_X_isIn 9 = .ok (.iconst 1, 1) := by decide +kernel
theorem d_X_isIn_10 : decode b_X_isIn 10 = .ok (.goto 4, 3) := by decide +kernel
theorem d_X_isIn_13 : decode b_X_isIn 13 = .ok (.iconst 0, 1) := by decide +kernel
theorem d_X_isIn_14 : decode b_X_isIn 14 = .ok (.ireturn, 1) := by decide +kernel
theorem d_X_place_0 : decode b_X_place 0 = .ok (.bipush 32, 2) := by decide +kernel
theorem d_X_place_2 : decode b_X_place 2 = .ok (.iload_n 0, 1) := by decide +kernel
theorem d_X_place_3 : decode b_X_place 3 = .ok (.iconst 3, 1) := by decide +kernel
theorem d_X_place_4 : decode b_X_place 4 = .ok (.iand, 1) := by decide +kernel
theorem d_X_place_5 : decode b_X_place 5 = .ok (.imul, 1) := by decide +kernel
theorem d_X_place_6 : decode b_X_place 6 = .ok (.iload_n 1, 1) := by decide +kernel
theorem d_X_place_7 : decode b_X_place 7 = .ok (.bipush 31, 2) := by decide +kernel
theorem d_X_place_9 : decode b_X_place 9 = .ok (.iand, 1) := by decide +kernel
theorem d_X_place_10 : decode b_X_place 10 = .ok (.iadd, 1) := by decide +kernel
theorem d_X_place_11 : decode b_X_place 11 = .ok (.ireturn, 1) := by decide +kernel
theorem d_X_behind_0 : decode b_X_behind 0 = .ok (.iload_n 0, 1) := by decide +kernel
theorem d_X_behind_1 : decode b_X_behind 1 = .ok (.bipush 32, 2) := by decide +kernel
theorem d_X_behind_3 : decode b_X_behind 3 = .ok (.idiv, 1) := by decide +kernel
theorem d_X_behind_4 : decode b_X_behind 4 = .ok (.iload_n 0, 1) := by decide +kernel
theorem d_X_behind_5 : decode b_X_behind 5 = .ok (.iconst 1, 1) := by decide +kernel
theorem d_X_behind_6 : decode b_X_behind 6 = .ok (.iadd, 1) := by decide +kernel
theorem d_X_behind_7 : decode b_X_behind 7 = .ok (.invokestatic 22, 3) := by decide +kernel
theorem d_X_behind_10 : decode b_X_behind 10 = .ok (.ireturn, 1) := by decide +kernel
theorem d_X_code_0 : decode b_X_code 0 = .ok (.iload_n 1, 1) := by decide +kernel
theorem d_X_code_1 : decode b_X_code 1 = .ok (.iconst 4, 1) := by decide +kernel
theorem d_X_code_2 : decode b_X_code 2 = .ok (.invokestatic 26, 3) := by decide +kernel
theorem d_X_code_5 : decode b_X_code 5 = .ok (.ifCond .eq 12, 3) := by decide +kernel
theorem d_X_code_8 : decode b_X_code 8 = .ok (.iload_n 2, 1) := by decide +kernel
theorem d_X_code_9 : decode b_X_code 9 = .ok (.bipush 32, 2) := by decide +kernel
theorem d_X_code_11 : decode b_X_code 11 = .ok (.invokestatic 26, 3) := by decide +kernel
theorem d_X_code_14 : decode b_X_code 14 = .ok (.ifCond .ne 5, 3) := by decide +kernel
theorem d_X_code_17 : decode b_X_code 17 = .ok (.iconst 0, 1) := by decide +kernel
theorem d_X_code_18 : decode b_X_code 18 = .ok (.ireturn, 1) := by decide +kernel
theorem d_X_code_19 : decode b_X_code 19 = .ok (.aload_n 0, 1) := by decide +kernel
theorem d_X_code_20 : decode b_X_code 20 = .ok (.getfield 16, 3) := by decide +kernel
theorem d_X_code_23 : decode b_X_code 23 = .ok (.iload_n 1, 1) := by decide +kernel
theorem d_X_code_24 : decode b_X_code 24 = .ok (.iload_n 2, 1) := by decide +kernel
theorem d_X_code_25 : decode b_X_code 25 = .ok (.invokestatic 22, 3) := by decide +kernel
theorem d_X_code_28 : decode b_X_code 28 = .ok (.iload_n 3, 1) := by decide +kernel
theorem d_X_code_29 : decode b_X_code 29 = .ok (.iastore, 1) := by decide +kernel
theorem d_X_code_30 : decode b_X_code 30 = .ok (.iconst 1, 1) := by decide +kernel
theorem d_X_code_31 : decode b_X_code 31 = .ok (.ireturn, 1) := by decide +kernel
theorem d_X_data_0 : decode b_X_data 0 = .ok (.iload_n 1, 1) := by decide +kernel
theorem d_X_data_1 : decode b_X_data 1 = .ok (.iconst 4, 1) := by decide +kernel
theorem d_X_data_2 : decode b_X_data 2 = .ok (.invokestatic 26, 3) := by decide +kernel
theorem d_X_data_5 : decode b_X_data 5 = .ok (.ifCond .eq 12, 3) := by decide +kernel
theorem d_X_data_8 : decode b_X_data 8 = .ok (.iload_n 2, 1) := by decide +kernel
theorem d_X_data_9 : decode b_X_data 9 = .ok (.bipush 16, 2) := by decide +kernel
theorem d_X_data_11 : decode b_X_data 11 = .ok (.invokestatic 26, 3) := by decide +kernel
theorem d_X_data_14 : decode b_X_data 14 = .ok (.ifCond .ne 5, 3) := by decide +kernel
theorem d_X_data_17 : decode b_X_data 17 = .ok (.iconst 0, 1) := by decide +kernel
theorem d_X_data_18 : decode b_X_data 18 = .ok (.ireturn, 1) := by decide +kernel
theorem d_X_data_19 : decode b_X_data 19 = .ok (.aload_n 0, 1) := by decide +kernel
theorem d_X_data_20 : decode b_X_data 20 = .ok (.getfield 7, 3) := by decide +kernel
theorem d_X_data_23 : decode b_X_data 23 = .ok (.bipush 22, 2) := by decide +kernel
theorem d_X_data_25 : decode b_X_data 25 = .ok (.bipush 16, 2) := by decide +kernel
theorem d_X_data_27 : decode b_X_data 27 = .ok (.iload_n 1, 1) := by decide +kernel
theorem d_X_data_28 : decode b_X_data 28 = .ok (.imul, 1) := by decide +kernel
theorem d_X_data_29 : decode b_X_data 29 = .ok (.iadd, 1) := by decide +kernel
theorem d_X_data_30 : decode b_X_data 30 = .ok (.iload_n 2, 1) := by decide +kernel
theorem d_X_data_31 : decode b_X_data 31 = .ok (.iadd, 1) := by decide +kernel
theorem d_X_data_32 : decode b_X_data 32 = .ok (.iload_n 3, 1) := by decide +kernel
theorem d_X_data_33 : decode b_X_data 33 = .ok (.iastore, 1) := by decide +kernel
theorem d_X_data_34 : decode b_X_data 34 = .ok (.iconst 1, 1) := by decide +kernel
theorem d_X_data_35 : decode b_X_data 35 = .ok (.ireturn, 1) := by decide +kernel
theorem d_X_set_0 : decode b_X_set 0 = .ok (.iload_n 1, 1) := by decide +kernel
theorem d_X_set_1 : decode b_X_set 1 = .ok (.iconst 1, 1) := by decide +kernel
theorem d_X_set_2 : decode b_X_set 2 = .ok (.if_icmp .lt 9, 3) := by decide +kernel
theorem d_X_set_5 : decode b_X_set 5 = .ok (.iload_n 1, 1) := by decide +kernel
theorem d_X_set_6 : decode b_X_set 6 = .ok (.bipush 7, 2) := by decide +kernel
theorem d_X_set_8 : decode b_X_set 8 = .ok (.if_icmp .le 5, 3) := by decide +kernel
theorem d_X_set_11 : decode b_X_set 11 = .ok (.iconst 0, 1) := by decide +kernel
theorem d_X_set_12 : decode b_X_set 12 = .ok (.ireturn, 1) := by decide +kernel
theorem d_X_set_13 : decode b_X_set 13 = .ok (.aload_n 0, 1) := by decide +kernel
theorem d_X_set_14 : decode b_X_set 14 = .ok (.getfield 7, 3) := by decide +kernel
theorem d_X_set_17 : decode b_X_set 17 = .ok (.bipush 10, 2) := by decide +kernel
theorem d_X_set_19 : decode b_X_set 19 = .ok (.iload_n 1, 1) := by decide +kernel
theorem d_X_set_20 : decode b_X_set 20 = .ok (.iadd, 1) := by decide +kernel
theorem d_X_set_21 : decode b_X_set 21 = .ok (.iload_n 2, 1) := by decide +kernel
theorem d_X_set_22 : decode b_X_set 22 = .ok (.iastore, 1) := by decide +kernel
theorem d_X_set_23 : decode b_X_set 23 = .ok (.iconst 1, 1) := by decide +kernel
theorem d_X_set_24 : decode b_X_set 24 = .ok (.ireturn, 1) := by decide +kernel
theorem d_X_setSpace_0 : decode b_X_setSpace 0 = .ok (.iload_n 1, 1) := by decide +kernel
theorem d_X_setSpace_1 : decode b_X_setSpace 1 = .ok (.iconst 4, 1) := by decide +kernel
theorem d_X_setSpace_2 : decode b_X_setSpace 2 = .ok (.invokestatic 26, 3) := by decide +kernel
theorem d_X_setSpace_5 : decode b_X_setSpace 5 = .ok (.ifCond .eq 11, 3) := by decide +kernel
theorem d_X_setSpace_8 : decode b_X_setSpace 8 = .ok (.iload_n 2, 1) := by decide +kernel
theorem d_X_setSpace_9 : decode b_X_setSpace 9 = .ok (.iconst 4, 1) := by decide +kernel
theorem d_X_setSpace_10 : decode b_X_setSpace 10 = .ok (.invokestatic 26, 3) := by decide +kernel
theorem d_X_setSpace_13 : decode b_X_setSpace 13 = .ok (.ifCond .ne 5, 3) := by decide +kernel
theorem d_X_setSpace_16 : decode b_X_setSpace 16 = .ok (.iconst 0, 1) := by decide +kernel
theorem d_X_setSpace_17 : decode b_X_setSpace 17 = .ok (.ireturn, 1) := by decide +kernel
theorem d_X_setSpace_18 : decode b_X_setSpace 18 = .ok (.aload_n 0, 1) := by decide +kernel
theorem d_X_setSpace_19 : decode b_X_setSpace 19 = .ok (.getfield 7, 3) := by decide +kernel
theorem d_X_setSpace_22 : decode b_X_setSpace 22 = .ok (.bipush 18, 2) := by decide +kernel
theorem d_X_setSpace_24 : decode b_X_setSpace 24 = .ok (.iload_n 1, 1) := by decide +kernel
theorem d_X_setSpace_25 : decode b_X_setSpace 25 = .ok (.iadd, 1) := by decide +kernel
theorem d_X_setSpace_26 : decode b_X_setSpace 26 = .ok (.iload_n 2, 1) := by decide +kernel
theorem d_X_setSpace_27 : decode b_X_setSpace 27 = .ok (.iastore, 1) := by decide +kernel
theorem d_X_setSpace_28 : decode b_X_setSpace 28 = .ok (.iconst 1, 1) := by decide +kernel
theorem d_X_setSpace_29 : decode b_X_setSpace 29 = .ok (.ireturn, 1) := by decide +kernel
theorem d_X_go_0 : decode b_X_go 0 = .ok (.iload_n 1, 1) := by decide +kernel
theorem d_X_go_1 : decode b_X_go 1 = .ok (.iconst 4, 1) := by decide +kernel
theorem d_X_go_2 : decode b_X_go 2 = .ok (.invokestatic 26, 3) := by decide +kernel
theorem d_X_go_5 : decode b_X_go 5 = .ok (.ifCond .eq 12, 3) := by decide +kernel
theorem d_X_go_8 : decode b_X_go 8 = .ok (.iload_n 2, 1) := by decide +kernel
theorem d_X_go_9 : decode b_X_go 9 = .ok (.bipush 32, 2) := by decide +kernel
theorem d_X_go_11 : decode b_X_go 11 = .ok (.invokestatic 26, 3) := by decide +kernel
theorem d_X_go_14 : decode b_X_go 14 = .ok (.ifCond .ne 5, 3) := by decide +kernel
theorem d_X_go_17 : decode b_X_go 17 = .ok (.iconst 0, 1) := by decide +kernel
theorem d_X_go_18 : decode b_X_go 18 = .ok (.ireturn, 1) := by decide +kernel
theorem d_X_go_19 : decode b_X_go 19 = .ok (.aload_n 0, 1) := by decide +kernel
theorem d_X_go_20 : decode b_X_go 20 = .ok (.getfield 7, 3) := by decide +kernel
theorem d_X_go_23 : decode b_X_go 23 = .ok (.iconst 0, 1) := by decide +kernel
theorem d_X_go_24 : decode b_X_go 24 = .ok (.iload_n 1, 1) := by decide +kernel
theorem d_X_go_25 : decode b_X_go 25 = .ok (.iload_n 2, 1) := by decide +kernel
theorem d_X_go_26 : decode b_X_go 26 = .ok (.invokestatic 22, 3) := by decide +kernel
theorem d_X_go_29 : decode b_X_go 29 = .ok (.iastore, 1) := by decide +kernel
theorem d_X_go_30 : decode b_X_go 30 = .ok (.aload_n 0, 1) := by decide +kernel
theorem d_X_go_31 : decode b_X_go 31 = .ok (.getfield 7, 3) := by decide +kernel
theorem d_X_go_34 : decode b_X_go 34 = .ok (.iconst 1, 1) := by decide +kernel
theorem d_X_go_35 : decode b_X_go 35 = .ok (.aload_n 0, 1) := by decide +kernel
theorem d_X_go_36 : decode b_X_go 36 = .ok (.getfield 7, 3) := by decide +kernel
theorem d_X_go_39 : decode b_X_go 39 = .ok (.iconst 0, 1) := by decide +kernel
theorem d_X_go_40 : decode b_X_go 40 = .ok (.iaload, 1) := by decide +kernel
theorem d_X_go_41 : decode b_X_go 41 = .ok (.invokestatic 30, 3) := by decide +kernel
theorem d_X_go_44 : decode b_X_go 44 = .ok (.iastore, 1) := by decide +kernel
theorem d_X_go_45 : decode b_X_go 45 = .ok (.aload_n 0, 1) := by decide +kernel
theorem d_X_go_46 : decode b_X_go 46 = .ok (.getfield 7, 3) := by decide +kernel
theorem d_X_go_49 : decode b_X_go 49 = .ok (.iconst 2, 1) := by decide +kernel
theorem d_X_go_50 : decode b_X_go 50 = .ok (.iconst 0, 1) := by decide +kernel
theorem d_X_go_51 : decode b_X_go 51 = .ok (.iastore, 1) := by decide +kernel
theorem d_X_go_52 : decode b_X_go 52 = .ok (.aload_n 0, 1) := by decide +kernel
theorem d_X_go_53 : decode b_X_go 53 = .ok (.getfield 7, 3) := by decide +kernel
theorem d_X_go_56 : decode b_X_go 56 = .ok (.iconst 3, 1) := by decide +kernel
theorem d_X_go_57 : decode b_X_go 57 = .ok (.iload_n 3, 1) := by decide +kernel
theorem d_X_go_58 : decode b_X_go 58 = .ok (.ifCond .eq 7, 3) := by decide +kernel
theorem d_X_go_61 : decode b_X_go 61 = .ok (.iconst 1, 1) := by decide +kernel
theorem d_X_go_62 : decode b_X_go 62 = .ok (.goto 4, 3) := by decide +kernel
theorem d_X_go_65 : decode b_X_go 65 = .ok (.iconst 0, 1) := by decide +kernel
theorem d_X_go_66 : decode b_X_go 66 = .ok (.iastore, 1) := by decide +kernel
theorem d_X_go_67 : decode b_X_go 67 = .ok (.iconst 1, 1) := by decide +kernel
theorem d_X_go_68 : decode b_X_go 68 = .ok (.ireturn, 1) := by decide +kernel
theorem d_X_interrupt_0 : decode b_X_interrupt 0 = .ok (.aload_n 0, 1) := by decide +kernel
theorem d_X_interrupt_1 : decode b_X_interrupt 1 = .ok (.getfield 7, 3) := by decide +kernel
theorem d_X_interrupt_4 : decode b_X_interrupt 4 = .ok (.iconst 4, 1) := by decide +kernel
theorem d_X_interrupt_5 : decode b_X_interrupt 5 = .ok (.iaload, 1) := by decide +kernel
theorem d_X_interrupt_6 : decode b_X_interrupt 6 = .ok (.ifCond .ne 7, 3) := by decide +kernel
theorem d_X_interrupt_9 : decode b_X_interrupt 9 = .ok (.iconst 1, 1) := by decide +kernel
theorem d_X_interrupt_10 : decode b_X_interrupt 10 = .ok (.goto 4, 3) := by decide +kernel
theorem d_X_interrupt_13 : decode b_X_interrupt 13 = .ok (.iconst 0, 1) := by decide +kernel
theorem d_X_interrupt_14 : decode b_X_interrupt 14 = .ok (.istore_n 1, 1) := by decide +kernel
theorem d_X_interrupt_15 : decode b_X_interrupt 15 = .ok (.aload_n 0, 1) := by decide +kernel
theorem d_X_interrupt_16 : decode b_X_interrupt 16 = .ok (.getfield 7, 3) := by decide +kernel
theorem d_X_interrupt_19 : decode b_X_interrupt 19 = .ok (.iconst 4, 1) := by decide +kernel
theorem d_X_interrupt_20 : decode b_X_interrupt 20 = .ok (.iconst 1, 1) := by decide +kernel
theorem d_X_interrupt_21 : decode b_X_interrupt 21 = .ok (.iastore, 1) := by decide +kernel
theorem d_X_interrupt_22 : decode b_X_interrupt 22 = .ok (.iload_n 1, 1) := by decide +kernel
theorem d_X_interrupt_23 : decode b_X_interrupt 23 = .ok (.ireturn, 1) := by decide +kernel
theorem d_X_trap_0 : decode b_X_trap 0 = .ok (.aload_n 0, 1) := by decide +kernel
theorem d_X_trap_1 : decode b_X_trap 1 = .ok (.getfield 7, 3) := by decide +kernel
theorem d_X_trap_4 : decode b_X_trap 4 = .ok (.iconst 5, 1) := by decide +kernel
theorem d_X_trap_5 : decode b_X_trap 5 = .ok (.aload_n 0, 1) := by decide +kernel
theorem d_X_trap_6 : decode b_X_trap 6 = .ok (.getfield 7, 3) := by decide +kernel
theorem d_X_trap_9 : decode b_X_trap 9 = .ok (.iconst 0, 1) := by decide +kernel
theorem d_X_trap_10 : decode b_X_trap 10 = .ok (.iaload, 1) := by decide +kernel
theorem d_X_trap_11 : decode b_X_trap 11 = .ok (.iastore, 1) := by decide +kernel
theorem d_X_trap_12 : decode b_X_trap 12 = .ok (.aload_n 0, 1) := by decide +kernel
theorem d_X_trap_13 : decode b_X_trap 13 = .ok (.getfield 7, 3) := by decide +kernel
theorem d_X_trap_16 : decode b_X_trap 16 = .ok (.bipush 6, 2) := by decide +kernel
theorem d_X_trap_18 : decode b_X_trap 18 = .ok (.aload_n 0, 1) := by decide +kernel
theorem d_X_trap_19 : decode b_X_trap 19 = .ok (.getfield 7, 3) := by decide +kernel
theorem d_X_trap_22 : decode b_X_trap 22 = .ok (.iconst 1, 1) := by decide +kernel
theorem d_X_trap_23 : decode b_X_trap 23 = .ok (.iaload, 1) := by decide +kernel
theorem d_X_trap_24 : decode b_X_trap 24 = .ok (.iastore, 1) := by decide +kernel
theorem d_X_trap_25 : decode b_X_trap 25 = .ok (.aload_n 0, 1) := by decide +kernel
theorem d_X_trap_26 : decode b_X_trap 26 = .ok (.getfield 7, 3) := by decide +kernel
theorem d_X_trap_29 : decode b_X_trap 29 = .ok (.bipush 7, 2) := by decide +kernel
theorem d_X_trap_31 : decode b_X_trap 31 = .ok (.aload_n 0, 1) := by decide +kernel
theorem d_X_trap_32 : decode b_X_trap 32 = .ok (.getfield 7, 3) := by decide +kernel
theorem d_X_trap_35 : decode b_X_trap 35 = .ok (.iconst 2, 1) := by decide +kernel
theorem d_X_trap_36 : decode b_X_trap 36 = .ok (.iaload, 1) := by decide +kernel
theorem d_X_trap_37 : decode b_X_trap 37 = .ok (.iastore, 1) := by decide +kernel
theorem d_X_trap_38 : decode b_X_trap 38 = .ok (.aload_n 0, 1) := by decide +kernel
theorem d_X_trap_39 : decode b_X_trap 39 = .ok (.getfield 7, 3) := by decide +kernel
theorem d_X_trap_42 : decode b_X_trap 42 = .ok (.bipush 8, 2) := by decide +kernel
theorem d_X_trap_44 : decode b_X_trap 44 = .ok (.aload_n 0, 1) := by decide +kernel
theorem d_X_trap_45 : decode b_X_trap 45 = .ok (.getfield 7, 3) := by decide +kernel
theorem d_X_trap_48 : decode b_X_trap 48 = .ok (.iconst 3, 1) := by decide +kernel
theorem d_X_trap_49 : decode b_X_trap 49 = .ok (.iaload, 1) := by decide +kernel
theorem d_X_trap_50 : decode b_X_trap 50 = .ok (.iastore, 1) := by decide +kernel
theorem d_X_trap_51 : decode b_X_trap 51 = .ok (.aload_n 0, 1) := by decide +kernel
theorem d_X_trap_52 : decode b_X_trap 52 = .ok (.getfield 7, 3) := by decide +kernel
theorem d_X_trap_55 : decode b_X_trap 55 = .ok (.bipush 9, 2) := by decide +kernel
theorem d_X_trap_57 : decode b_X_trap 57 = .ok (.iload_n 1, 1) := by decide +kernel
theorem d_X_trap_58 : decode b_X_trap 58 = .ok (.iastore, 1) := by decide +kernel
theorem d_X_trap_59 : decode b_X_trap 59 = .ok (.aload_n 0, 1) := by decide +kernel
theorem d_X_trap_60 : decode b_X_trap 60 = .ok (.getfield 7, 3) := by decide +kernel
theorem d_X_trap_63 : decode b_X_trap 63 = .ok (.iconst 2, 1) := by decide +kernel
theorem d_X_trap_64 : decode b_X_trap 64 = .ok (.iconst 0, 1) := by decide +kernel
theorem d_X_trap_65 : decode b_X_trap 65 = .ok (.iastore, 1) := by decide +kernel
theorem d_X_trap_66 : decode b_X_trap 66 = .ok (.aload_n 0, 1) := by decide +kernel
theorem d_X_trap_67 : decode b_X_trap 67 = .ok (.getfield 7, 3) := by decide +kernel
theorem d_X_trap_70 : decode b_X_trap 70 = .ok (.iconst 3, 1) := by decide +kernel
theorem d_X_trap_71 : decode b_X_trap 71 = .ok (.iconst 0, 1) := by decide +kernel
theorem d_X_trap_72 : decode b_X_trap 72 = .ok (.iastore, 1) := by decide +kernel
theorem d_X_trap_73 : decode b_X_trap 73 = .ok (.aload_n 0, 1) := by decide +kernel
theorem d_X_trap_74 : decode b_X_trap 74 = .ok (.getfield 7, 3) := by decide +kernel
theorem d_X_trap_77 : decode b_X_trap 77 = .ok (.iconst 0, 1) := by decide +kernel
theorem d_X_trap_78 : decode b_X_trap 78 = .ok (.iconst 4, 1) := by decide +kernel
theorem d_X_trap_79 : decode b_X_trap 79 = .ok (.iload_n 1, 1) := by decide +kernel
theorem d_X_trap_80 : decode b_X_trap 80 = .ok (.imul, 1) := by decide +kernel
theorem d_X_trap_81 : decode b_X_trap 81 = .ok (.iastore, 1) := by decide +kernel
theorem d_X_trap_82 : decode b_X_trap 82 = .ok (.aload_n 0, 1) := by decide +kernel
theorem d_X_trap_83 : decode b_X_trap 83 = .ok (.getfield 7, 3) := by decide +kernel
theorem d_X_trap_86 : decode b_X_trap 86 = .ok (.iconst 1, 1) := by decide +kernel
theorem d_X_trap_87 : decode b_X_trap 87 = .ok (.iconst 4, 1) := by decide +kernel
theorem d_X_trap_88 : decode b_X_trap 88 = .ok (.iload_n 1, 1) := by decide +kernel
theorem d_X_trap_89 : decode b_X_trap 89 = .ok (.imul, 1) := by decide +kernel
theorem d_X_trap_90 : decode b_X_trap 90 = .ok (.iconst 1, 1) := by decide +kernel
theorem d_X_trap_91 : decode b_X_trap 91 = .ok (.iadd, 1) := by decide +kernel
theorem d_X_trap_92 : decode b_X_trap 92 = .ok (.iastore, 1) := by decide +kernel
theorem d_X_trap_93 : decode b_X_trap 93 = .ok (.aload_n 0, 1) := by decide +kernel
theorem d_X_trap_94 : decode b_X_trap 94 = .ok (.getfield 19, 3) := by decide +kernel
theorem d_X_trap_97 : decode b_X_trap 97 = .ok (.iload_n 1, 1) := by decide +kernel
theorem d_X_trap_98 : decode b_X_trap 98 = .ok (.aload_n 0, 1) := by decide +kernel
theorem d_X_trap_99 : decode b_X_trap 99 = .ok (.getfield 19, 3) := by decide +kernel
theorem d_X_trap_102 : decode b_X_trap 102 = .ok (.iload_n 1, 1) := by decide +kernel
theorem d_X_trap_103 : decode b_X_trap 103 = .ok (.iaload, 1) := by decide +kernel
theorem d_X_trap_104 : decode b_X_trap 104 = .ok (.iconst 1, 1) := by decide +kernel
theorem d_X_trap_105 : decode b_X_trap 105 = .ok (.iadd, 1) := by decide +kernel
theorem d_X_trap_106 : decode b_X_trap 106 = .ok (.iastore, 1) := by decide +kernel
theorem d_X_trap_107 : decode b_X_trap 107 = .ok (.return_, 1) := by decide +kernel
theorem d_X_moveOn_0 : decode b_X_moveOn 0 = .ok (.aload_n 0, 1) := by decide +kernel
theorem d_X_moveOn_1 : decode b_X_moveOn 1 = .ok (.getfield 7, 3) := by decide +kernel
theorem d_X_moveOn_4 : decode b_X_moveOn 4 = .ok (.iconst 0, 1) := by decide +kernel
theorem d_X_moveOn_5 : decode b_X_moveOn 5 = .ok (.aload_n 0, 1) := by decide +kernel
theorem d_X_moveOn_6 : decode b_X_moveOn 6 = .ok (.getfield 7, 3) := by decide +kernel
theorem d_X_moveOn_9 : decode b_X_moveOn 9 = .ok (.iconst 1, 1) := by decide +kernel
theorem d_X_moveOn_10 : decode b_X_moveOn 10 = .ok (.iaload, 1) := by decide +kernel
theorem d_X_moveOn_11 : decode b_X_moveOn 11 = .ok (.iastore, 1) := by decide +kernel
theorem d_X_moveOn_12 : decode b_X_moveOn 12 = .ok (.aload_n 0, 1) := by decide +kernel
theorem d_X_moveOn_13 : decode b_X_moveOn 13 = .ok (.getfield 7, 3) := by decide +kernel
theorem d_X_moveOn_16 : decode b_X_moveOn 16 = .ok (.iconst 1, 1) := by decide +kernel
theorem d_X_moveOn_17 : decode b_X_moveOn 17 = .ok (.iload_n 1, 1) := by decide +kernel
theorem d_X_moveOn_18 : decode b_X_moveOn 18 = .ok (.ifCond .ge 15, 3) := by decide +kernel
theorem d_X_moveOn_21 : decode b_X_moveOn 21 = .ok (.aload_n 0, 1) := by decide +kernel
theorem d_X_moveOn_22 : decode b_X_moveOn 22 = .ok (.getfield 7, 3) := by decide +kernel
theorem d_X_moveOn_25 : decode b_X_moveOn 25 = .ok (.iconst 0, 1) := by decide +kernel
theorem d_X_moveOn_26 : decode b_X_moveOn 26 = .ok (.iaload, 1) := by decide +kernel
theorem d_X_moveOn_27 : decode b_X_moveOn 27 = .ok (.invokestatic 30, 3) := by decide +kernel
theorem d_X_moveOn_30 : decode b_X_moveOn 30 = .ok (.goto 4, 3) := by decide +kernel
theorem d_X_moveOn_33 : decode b_X_moveOn 33 = .ok (.iload_n 1, 1) := by decide +kernel
theorem d_X_moveOn_34 : decode b_X_moveOn 34 = .ok (.iastore, 1) := by decide +kernel
theorem d_X_moveOn_35 : decode b_X_moveOn 35 = .ok (.return_, 1) := by decide +kernel
theorem d_X_write_0 : decode b_X_write 0 = .ok (.aload_n 0, 1) := by decide +kernel
theorem d_X_write_1 : decode b_X_write 1 = .ok (.getfield 7, 3) := by decide +kernel
theorem d_X_write_4 : decode b_X_write 4 = .ok (.bipush 10, 2) := by decide +kernel
theorem d_X_write_6 : decode b_X_write 6 = .ok (.iload_n 1, 1) := by decide +kernel
theorem d_X_write_7 : decode b_X_write 7 = .ok (.iadd, 1) := by decide +kernel
theorem d_X_write_8 : decode b_X_write 8 = .ok (.iload_n 1, 1) := by decide +kernel
theorem d_X_write_9 : decode b_X_write 9 = .ok (.ifCond .ne 7, 3) := by decide +kernel
theorem d_X_write_12 : decode b_X_write 12 = .ok (.iconst 0, 1) := by decide +kernel
theorem d_X_write_13 : decode b_X_write 13 = .ok (.goto 4, 3) := by decide +kernel
theorem d_X_write_16 : decode b_X_write 16 = .ok (.iload_n 2, 1) := by decide +kernel
theorem d_X_write_17 : decode b_X_write 17 = .ok (.iastore, 1) := by decide +kernel
theorem d_X_write_18 : decode b_X_write 18 = .ok (.return_, 1) := by decide +kernel
theorem d_X_holds_0 : decode b_X_holds 0 = .ok (.iload_n 1, 1) := by decide +kernel
theorem d_X_holds_1 : decode b_X_holds 1 = .ok (.i2l, 1) := by decide +kernel
theorem d_X_holds_2 : decode b_X_holds 2 = .ok (.ldc2_w 34, 3) := by decide +kernel
theorem d_X_holds_5 : decode b_X_holds 5 = .ok (.land, 1) := by decide +kernel
theorem d_X_holds_6 : decode b_X_holds 6 = .ok (.lstore_n 3, 1) := by decide +kernel
theorem d_X_holds_7 : decode b_X_holds 7 = .ok (.iload_n 2, 1) := by decide +kernel
theorem d_X_holds_8 : decode b_X_holds 8 = .ok (.i2l, 1) := by decide +kernel
theorem d_X_holds_9 : decode b_X_holds 9 = .ok (.ldc2_w 34, 3) := by decide +kernel
theorem d_X_holds_12 : decode b_X_holds 12 = .ok (.land, 1) := by decide +kernel
theorem d_X_holds_13 : decode b_X_holds 13 = .ok (.lstore 5, 2) := by decide +kernel
theorem d_X_holds_15 : decode b_X_holds 15 = .ok (.iload_n 0, 1) := by decide +kernel
theorem d_X_holds_16 : decode b_X_holds 16 = .ok (.tableswitch 114 1 6 #[40, 51, 62, 73, 86, 99], 40) := by decide +kernel
theorem d_X_holds_56 : decode b_X_holds 56 = .ok (.iload_n 1, 1) := by decide +kernel
theorem d_X_holds_57 : decode b_X_holds 57 = .ok (.iload_n 2, 1) := by decide +kernel
theorem d_X_holds_58 : decode b_X_holds 58 = .ok (.if_icmp .ne 7, 3) := by decide +kernel
theorem d_X_holds_61 : decode b_X_holds 61 = .ok (.iconst 1, 1) := by decide +kernel
theorem d_X_holds_62 : decode b_X_holds 62 = .ok (.goto 4, 3) := by decide +kernel
theorem d_X_holds_65 : decode b_X_holds 65 = .ok (.iconst 0, 1) := by decide +kernel
theorem d_X_holds_66 : decode b_X_holds 66 = .ok (.ireturn, 1) := by decide +kernel
theorem d_X_holds_67 : decode b_X_holds 67 = .ok (.iload_n 1, 1) := by decide +kernel
theorem d_X_holds_68 : decode b_X_holds 68 = .ok (.iload_n 2, 1) := by decide +kernel
theorem d_X_holds_69 : decode b_X_holds 69 = .ok (.if_icmp .ge 7, 3) := by decide +kernel
theorem d_X_holds_72 : decode b_X_holds 72 = .ok (.iconst 1, 1) := by decide +kernel
theorem d_X_holds_73 : decode b_X_holds 73 = .ok (.goto 4, 3) := by decide +kernel
theorem d_X_holds_76 : decode b_X_holds 76 = .ok (.iconst 0, 1) := by decide +kernel
theorem d_X_holds_77 : decode b_X_holds 77 = .ok (.ireturn, 1) := by decide +kernel
theorem d_X_holds_78 : decode b_X_holds 78 = .ok (.iload_n 1, 1) := by decide +kernel
theorem d_X_holds_79 : decode b_X_holds 79 = .ok (.iload_n 2, 1) := by decide +kernel
theorem d_X_holds_80 : decode b_X_holds 80 = .ok (.if_icmp .gt 7, 3) := by decide +kernel
theorem d_X_holds_83 : decode b_X_holds 83 = .ok (.iconst 1, 1) := by decide +kernel
theorem d_X_holds_84 : decode b_X_holds 84 = .ok (.goto 4, 3) := by decide +kernel
theorem d_X_holds_87 : decode b_X_holds 87 = .ok (.iconst 0, 1) := by decide +kernel
theorem d_X_holds_88 : decode b_X_holds 88 = .ok (.ireturn, 1) := by decide +kernel
theorem d_X_holds_89 : decode b_X_holds 89 = .ok (.lload_n 3, 1) := by decide +kernel
theorem d_X_holds_90 : decode b_X_holds 90 = .ok (.lload 5, 2) := by decide +kernel
theorem d_X_holds_92 : decode b_X_holds 92 = .ok (.lcmp, 1) := by decide +kernel
theorem d_X_holds_93 : decode b_X_holds 93 = .ok (.ifCond .ge 7, 3) := by decide +kernel
theorem d_X_holds_96 : decode b_X_holds 96 = .ok (.iconst 1, 1) := by decide +kernel
theorem d_X_holds_97 : decode b_X_holds 97 = .ok (.goto 4, 3) := by decide +kernel
theorem d_X_holds_100 : decode b_X_holds 100 = .ok (.iconst 0, 1) := by decide +kernel
theorem d_X_holds_101 : decode b_X_holds 101 = .ok (.ireturn, 1) := by decide +kernel
theorem d_X_holds_102 : decode b_X_holds 102 = .ok (.lload_n 3, 1) := by decide +kernel
theorem d_X_holds_103 : decode b_X_holds 103 = .ok (.lload 5, 2) := by decide +kernel
theorem d_X_holds_105 : decode b_X_holds 105 = .ok (.lcmp, 1) := by decide +kernel
theorem d_X_holds_106 : decode b_X_holds 106 = .ok (.ifCond .gt 7, 3) := by decide +kernel
theorem d_X_holds_109 : decode b_X_holds 109 = .ok (.iconst 1, 1) := by decide +kernel
theorem d_X_holds_110 : decode b_X_holds 110 = .ok (.goto 4, 3) := by decide +kernel
theorem d_X_holds_113 : decode b_X_holds 113 = .ok (.iconst 0, 1) := by decide +kernel
theorem d_X_holds_114 : decode b_X_holds 114 = .ok (.ireturn, 1) := by decide +kernel
theorem d_X_holds_115 : decode b_X_holds 115 = .ok (.iload_n 1, 1) := by decide +kernel
theorem d_X_holds_116 : decode b_X_holds 116 = .ok (.iload_n 2, 1) := by decide +kernel
theorem d_X_holds_117 : decode b_X_holds 117 = .ok (.isub, 1) := by decide +kernel
theorem d_X_holds_118 : decode b_X_holds 118 = .ok (.iconst 1, 1) := by decide +kernel
theorem d_X_holds_119 : decode b_X_holds 119 = .ok (.iand, 1) := by decide +kernel
theorem d_X_holds_120 : decode b_X_holds 120 = .ok (.iconst 1, 1) := by decide +kernel
theorem d_X_holds_121 : decode b_X_holds 121 = .ok (.if_icmp .ne 7, 3) := by decide +kernel
theorem d_X_holds_124 : decode b_X_holds 124 = .ok (.iconst 1, 1) := by decide +kernel
theorem d_X_holds_125 : decode b_X_holds 125 = .ok (.goto 4, 3) := by decide +kernel
theorem d_X_holds_128 : decode b_X_holds 128 = .ok (.iconst 0, 1) := by decide +kernel
theorem d_X_holds_129 : decode b_X_holds 129 = .ok (.ireturn, 1) := by decide +kernel
theorem d_X_holds_130 : decode b_X_holds 130 = .ok (.iload_n 0, 1) := by decide +kernel
theorem d_X_holds_131 : decode b_X_holds 131 = .ok (.bipush 7, 2) := by decide +kernel
theorem d_X_holds_133 : decode b_X_holds 133 = .ok (.if_icmp .ne 7, 3) := by decide +kernel
theorem d_X_holds_136 : decode b_X_holds 136 = .ok (.iconst 1, 1) := by decide +kernel
theorem d_X_holds_137 : decode b_X_holds 137 = .ok (.goto 4, 3) := by decide +kernel
theorem d_X_holds_140 : decode b_X_holds 140 = .ok (.iconst 0, 1) := by decide +kernel
theorem d_X_holds_141 : decode b_X_holds 141 = .ok (.ireturn, 1) := by decide +kernel
theorem d_X_reckon_0 : decode b_X_reckon 0 = .ok (.iload_n 2, 1) := by decide +kernel
theorem d_X_reckon_1 : decode b_X_reckon 1 = .ok (.iconst 1, 1) := by decide +kernel
theorem d_X_reckon_2 : decode b_X_reckon 2 = .ok (.if_icmp .ne 12, 3) := by decide +kernel
theorem d_X_reckon_5 : decode b_X_reckon 5 = .ok (.iload_n 3, 1) := by decide +kernel
theorem d_X_reckon_6 : decode b_X_reckon 6 = .ok (.i2l, 1) := by decide +kernel
theorem d_X_reckon_7 : decode b_X_reckon 7 = .ok (.iload 4, 2) := by decide +kernel
theorem d_X_reckon_9 : decode b_X_reckon 9 = .ok (.i2l, 1) := by decide +kernel
theorem d_X_reckon_10 : decode b_X_reckon 10 = .ok (.ladd, 1) := by decide +kernel
theorem d_X_reckon_11 : decode b_X_reckon 11 = .ok (.goto 9, 3) := by decide +kernel
theorem d_X_reckon_14 : decode b_X_reckon 14 = .ok (.iload_n 3, 1) := by decide +kernel
theorem d_X_reckon_15 : decode b_X_reckon 15 = .ok (.i2l, 1) := by decide +kernel
theorem d_X_reckon_16 : decode b_X_reckon 16 = .ok (.iload 4, 2) := by decide +kernel
theorem d_X_reckon_18 : decode b_X_reckon 18 = .ok (.i2l, 1) := by decide +kernel
theorem d_X_reckon_19 : decode b_X_reckon 19 = .ok (.lsub, 1) := by decide +kernel
theorem d_X_reckon_20 : decode b_X_reckon 20 = .ok (.lstore 6, 2) := by decide +kernel
theorem d_X_reckon_22 : decode b_X_reckon 22 = .ok (.iload_n 2, 1) := by decide +kernel
theorem d_X_reckon_23 : decode b_X_reckon 23 = .ok (.iconst 1, 1) := by decide +kernel
theorem d_X_reckon_24 : decode b_X_reckon 24 = .ok (.if_icmp .eq 8, 3) := by decide +kernel
theorem d_X_reckon_27 : decode b_X_reckon 27 = .ok (.iload_n 2, 1) := by decide +kernel
theorem d_X_reckon_28 : decode b_X_reckon 28 = .ok (.iconst 3, 1) := by decide +kernel
theorem d_X_reckon_29 : decode b_X_reckon 29 = .ok (.if_icmp .ne 15, 3) := by decide +kernel
theorem d_X_reckon_32 : decode b_X_reckon 32 = .ok (.lload 6, 2) := by decide +kernel
theorem d_X_reckon_34 : decode b_X_reckon 34 = .ok (.lload 6, 2) := by decide +kernel
theorem d_X_reckon_36 : decode b_X_reckon 36 = .ok (.l2i, 1) := by decide +kernel
theorem d_X_reckon_37 : decode b_X_reckon 37 = .ok (.i2l, 1) := by decide +kernel
theorem d_X_reckon_38 : decode b_X_reckon 38 = .ok (.lcmp, 1) := by decide +kernel
theorem d_X_reckon_39 : decode b_X_reckon 39 = .ok (.ifCond .eq 5, 3) := by decide +kernel
theorem d_X_reckon_42 : decode b_X_reckon 42 = .ok (.iconst 2, 1) := by decide +kernel
theorem d_X_reckon_43 : decode b_X_reckon 43 = .ok (.ireturn, 1) := by decide +kernel
theorem d_X_reckon_44 : decode b_X_reckon 44 = .ok (.iconst 0, 1) := by decide +kernel
theorem d_X_reckon_45 : decode b_X_reckon 45 = .ok (.istore 8, 2) := by decide +kernel
theorem d_X_reckon_47 : decode b_X_reckon 47 = .ok (.iload_n 2, 1) := by decide +kernel
theorem d_X_reckon_48 : decode b_X_reckon 48 = .ok (.iconst 2, 1) := by decide +kernel
theorem d_X_reckon_49 : decode b_X_reckon 49 = .ok (.if_icmp .ge 12, 3) := by decide +kernel
theorem d_X_reckon_52 : decode b_X_reckon 52 = .ok (.iload_n 3, 1) := by decide +kernel
theorem d_X_reckon_53 : decode b_X_reckon 53 = .ok (.iload 4, 2) := by decide +kernel
theorem d_X_reckon_55 : decode b_X_reckon 55 = .ok (.iadd, 1) := by decide +kernel
theorem d_X_reckon_56 : decode b_X_reckon 56 = .ok (.istore 8, 2) := by decide +kernel
theorem d_X_reckon_58 : decode b_X_reckon 58 = .ok (.goto 127, 3) := by decide +kernel
theorem d_X_reckon_61 : decode b_X_reckon 61 = .ok (.iload_n 2, 1) := by decide +kernel
theorem d_X_reckon_62 : decode b_X_reckon 62 = .ok (.iconst 4, 1) := by decide +kernel
theorem d_X_reckon_63 : decode b_X_reckon 63 = .ok (.if_icmp .ge 12, 3) := by decide +kernel
theorem d_X_reckon_66 : decode b_X_reckon 66 = .ok (.iload_n 3, 1) := by decide +kernel
theorem d_X_reckon_67 : decode b_X_reckon 67 = .ok (.iload 4, 2) := by decide +kernel
theorem d_X_reckon_69 : decode b_X_reckon 69 = .ok (.isub, 1) := by decide +kernel
theorem d_X_reckon_70 : decode b_X_reckon 70 = .ok (.istore 8, 2) := by decide +kernel
theorem d_X_reckon_72 : decode b_X_reckon 72 = .ok (.goto 113, 3) := by decide +kernel
theorem d_X_reckon_75 : decode b_X_reckon 75 = .ok (.iload_n 2, 1) := by decide +kernel
theorem d_X_reckon_76 : decode b_X_reckon 76 = .ok (.iconst 4, 1) := by decide +kernel
theorem d_X_reckon_77 : decode b_X_reckon 77 = .ok (.if_icmp .ne 12, 3) := by decide +kernel
theorem d_X_reckon_80 : decode b_X_reckon 80 = .ok (.iload_n 3, 1) := by decide +kernel
theorem d_X_reckon_81 : decode b_X_reckon 81 = .ok (.iload 4, 2) := by decide +kernel
theorem d_X_reckon_83 : decode b_X_reckon 83 = .ok (.iand, 1) := by decide +kernel
theorem d_X_reckon_84 : decode b_X_reckon 84 = .ok (.istore 8, 2) := by decide +kernel
theorem d_X_reckon_86 : decode b_X_reckon 86 = .ok (.goto 99, 3) := by decide +kernel
theorem d_X_reckon_89 : decode b_X_reckon 89 = .ok (.iload_n 2, 1) := by decide +kernel
theorem d_X_reckon_90 : decode b_X_reckon 90 = .ok (.iconst 5, 1) := by decide +kernel
theorem d_X_reckon_91 : decode b_X_reckon 91 = .ok (.if_icmp .ne 12, 3) := by decide +kernel
theorem d_X_reckon_94 : decode b_X_reckon 94 = .ok (.iload_n 3, 1) := by decide +kernel
theorem d_X_reckon_95 : decode b_X_reckon 95 = .ok (.iload 4, 2) := by decide +kernel
theorem d_X_reckon_97 : decode b_X_reckon 97 = .ok (.ior, 1) := by decide +kernel
theorem d_X_reckon_98 : decode b_X_reckon 98 = .ok (.istore 8, 2) := by decide +kernel
theorem d_X_reckon_100 : decode b_X_reckon 100 = .ok (.goto 85, 3) := by decide +kernel
theorem d_X_reckon_103 : decode b_X_reckon 103 = .ok (.iload_n 2, 1) := by decide +kernel
theorem d_X_reckon_104 : decode b_X_reckon 104 = .ok (.bipush 6, 2) := by decide +kernel
theorem d_X_reckon_106 : decode b_X_reckon 106 = .ok (.if_icmp .ne 12, 3) := by decide +kernel
theorem d_X_reckon_109 : decode b_X_reckon 109 = .ok (.iload_n 3, 1) := by decide +kernel
theorem d_X_reckon_110 : decode b_X_reckon 110 = .ok (.iload 4, 2) := by decide +kernel
theorem d_X_reckon_112 : decode b_X_reckon 112 = .ok (.ixor, 1) := by decide +kernel
theorem d_X_reckon_113 : decode b_X_reckon 113 = .ok (.istore 8, 2) := by decide +kernel
theorem d_X_reckon_115 : decode b_X_reckon 115 = .ok (.goto 70, 3) := by decide +kernel
theorem d_X_reckon_118 : decode b_X_reckon 118 = .ok (.iload_n 2, 1) := by decide +kernel
theorem d_X_reckon_119 : decode b_X_reckon 119 = .ok (.bipush 7, 2) := by decide +kernel
theorem d_X_reckon_121 : decode b_X_reckon 121 = .ok (.if_icmp .ne 14, 3) := by decide +kernel
theorem d_X_reckon_124 : decode b_X_reckon 124 = .ok (.iload_n 3, 1) := by decide +kernel
theorem d_X_reckon_125 : decode b_X_reckon 125 = .ok (.iload 4, 2) := by decide +kernel
theorem d_X_reckon_127 : decode b_X_reckon 127 = .ok (.iconst (-1), 1) := by decide +kernel
theorem d_X_reckon_128 : decode b_X_reckon 128 = .ok (.ixor, 1) := by decide +kernel
theorem d_X_reckon_129 : decode b_X_reckon 129 = .ok (.iand, 1) := by decide +kernel
theorem d_X_reckon_130 : decode b_X_reckon 130 = .ok (.istore 8, 2) := by decide +kernel
theorem d_X_reckon_132 : decode b_X_reckon 132 = .ok (.goto 53, 3) := by decide +kernel
theorem d_X_reckon_135 : decode b_X_reckon 135 = .ok (.iload_n 2, 1) := by decide +kernel
theorem d_X_reckon_136 : decode b_X_reckon 136 = .ok (.bipush 9, 2) := by decide +kernel
theorem d_X_reckon_138 : decode b_X_reckon 138 = .ok (.if_icmp .ne 12, 3) := by decide +kernel
theorem d_X_reckon_141 : decode b_X_reckon 141 = .ok (.iload_n 3, 1) := by decide +kernel
theorem d_X_reckon_142 : decode b_X_reckon 142 = .ok (.iload 5, 2) := by decide +kernel
theorem d_X_reckon_144 : decode b_X_reckon 144 = .ok (.iadd, 1) := by decide +kernel
theorem d_X_reckon_145 : decode b_X_reckon 145 = .ok (.istore 8, 2) := by decide +kernel
theorem d_X_reckon_147 : decode b_X_reckon 147 = .ok (.goto 38, 3) := by decide +kernel
theorem d_X_reckon_150 : decode b_X_reckon 150 = .ok (.iload_n 2, 1) := by decide +kernel
theorem d_X_reckon_151 : decode b_X_reckon 151 = .ok (.bipush 10, 2) := by decide +kernel
theorem d_X_reckon_153 : decode b_X_reckon 153 = .ok (.if_icmp .ne 32, 3) := by decide +kernel
theorem d_X_reckon_156 : decode b_X_reckon 156 = .ok (.iload_n 1, 1) := by decide +kernel
theorem d_X_reckon_157 : decode b_X_reckon 157 = .ok (.bipush 14, 2) := by decide +kernel
theorem d_X_reckon_159 : decode b_X_reckon 159 = .ok (.iushr, 1) := by decide +kernel
theorem d_X_reckon_160 : decode b_X_reckon 160 = .ok (.iconst 1, 1) := by decide +kernel
theorem d_X_reckon_161 : decode b_X_reckon 161 = .ok (.iand, 1) := by decide +kernel
theorem d_X_reckon_162 : decode b_X_reckon 162 = .ok (.iconst 1, 1) := by decide +kernel
theorem d_X_reckon_163 : decode b_X_reckon 163 = .ok (.if_icmp .ne 13, 3) := by decide +kernel
theorem d_X_reckon_166 : decode b_X_reckon 166 = .ok (.iload_n 3, 1) := by decide +kernel
theorem d_X_reckon_167 : decode b_X_reckon 167 = .ok (.iload 5, 2) := by decide +kernel
theorem d_X_reckon_169 : decode b_X_reckon 169 = .ok (.bipush 31, 2) := by decide +kernel
theorem d_X_reckon_171 : decode b_X_reckon 171 = .ok (.iand, 1) := by decide +kernel
theorem d_X_reckon_172 : decode b_X_reckon 172 = .ok (.iushr, 1) := by decide +kernel
theorem d_X_reckon_173 : decode b_X_reckon 173 = .ok (.goto 10, 3) := by decide +kernel
theorem d_X_reckon_176 : decode b_X_reckon 176 = .ok (.iload_n 3, 1) := by decide +kernel
theorem d_X_reckon_177 : decode b_X_reckon 177 = .ok (.iload 5, 2) := by decide +kernel
theorem d_X_reckon_179 : decode b_X_reckon 179 = .ok (.bipush 31, 2) := by decide +kernel
theorem d_X_reckon_181 : decode b_X_reckon 181 = .ok (.iand, 1) := by decide +kernel
theorem d_X_reckon_182 : decode b_X_reckon 182 = .ok (.ishl, 1) := by decide +kernel
theorem d_X_reckon_183 : decode b_X_reckon 183 = .ok (.istore 8, 2) := by decide +kernel
theorem d_X_reckon_185 : decode b_X_reckon 185 = .ok (.aload_n 0, 1) := by decide +kernel
theorem d_X_reckon_186 : decode b_X_reckon 186 = .ok (.iload_n 1, 1) := by decide +kernel
theorem d_X_reckon_187 : decode b_X_reckon 187 = .ok (.bipush 24, 2) := by decide +kernel
theorem d_X_reckon_189 : decode b_X_reckon 189 = .ok (.iushr, 1) := by decide +kernel
theorem d_X_reckon_190 : decode b_X_reckon 190 = .ok (.bipush 7, 2) := by decide +kernel
theorem d_X_reckon_192 : decode b_X_reckon 192 = .ok (.iand, 1) := by decide +kernel
theorem d_X_reckon_193 : decode b_X_reckon 193 = .ok (.iload 8, 2) := by decide +kernel
theorem d_X_reckon_195 : decode b_X_reckon 195 = .ok (.invokevirtual 36, 3) := by decide +kernel
theorem d_X_reckon_198 : decode b_X_reckon 198 = .ok (.iload_n 2, 1) := by decide +kernel
theorem d_X_reckon_199 : decode b_X_reckon 199 = .ok (.iconst 2, 1) := by decide +kernel
theorem d_X_reckon_200 : decode b_X_reckon 200 = .ok (.if_icmp .eq 14, 3) := by decide +kernel
theorem d_X_reckon_203 : decode b_X_reckon 203 = .ok (.iload_n 2, 1) := by decide +kernel
theorem d_X_reckon_204 : decode b_X_reckon 204 = .ok (.iconst 3, 1) := by decide +kernel
theorem d_X_reckon_205 : decode b_X_reckon 205 = .ok (.if_icmp .eq 9, 3) := by decide +kernel
theorem d_X_reckon_208 : decode b_X_reckon 208 = .ok (.iload_n 2, 1) := by decide +kernel
theorem d_X_reckon_209 : decode b_X_reckon 209 = .ok (.bipush 8, 2) := by decide +kernel
theorem d_X_reckon_211 : decode b_X_reckon 211 = .ok (.if_icmp .ne 7, 3) := by decide +kernel
theorem d_X_reckon_214 : decode b_X_reckon 214 = .ok (.iconst 1, 1) := by decide +kernel
theorem d_X_reckon_215 : decode b_X_reckon 215 = .ok (.goto 4, 3) := by decide +kernel
theorem d_X_reckon_218 : decode b_X_reckon 218 = .ok (.iconst 0, 1) := by decide +kernel
theorem d_X_reckon_219 : decode b_X_reckon 219 = .ok (.istore 9, 2) := by decide +kernel
theorem d_X_reckon_221 : decode b_X_reckon 221 = .ok (.aload_n 0, 1) := by decide +kernel
theorem d_X_reckon_222 : decode b_X_reckon 222 = .ok (.iload_n 1, 1) := by decide +kernel
theorem d_X_reckon_223 : decode b_X_reckon 223 = .ok (.bipush 15, 2) := by decide +kernel
theorem d_X_reckon_225 : decode b_X_reckon 225 = .ok (.iushr, 1) := by decide +kernel
theorem d_X_reckon_226 : decode b_X_reckon 226 = .ok (.bipush 7, 2) := by decide +kernel
theorem d_X_reckon_228 : decode b_X_reckon 228 = .ok (.iand, 1) := by decide +kernel
theorem d_X_reckon_229 : decode b_X_reckon 229 = .ok (.iload 9, 2) := by decide +kernel
theorem d_X_reckon_231 : decode b_X_reckon 231 = .ok (.ifCond .eq 7, 3) := by decide +kernel
theorem d_X_reckon_234 : decode b_X_reckon 234 = .ok (.iload_n 3, 1) := by decide +kernel
theorem d_X_reckon_235 : decode b_X_reckon 235 = .ok (.goto 5, 3) := by decide +kernel
theorem d_X_reckon_238 : decode b_X_reckon 238 = .ok (.iload 8, 2) := by decide +kernel
theorem d_X_reckon_240 : decode b_X_reckon 240 = .ok (.iload 9, 2) := by decide +kernel
theorem d_X_reckon_242 : decode b_X_reckon 242 = .ok (.ifCond .eq 8, 3) := by decide +kernel
theorem d_X_reckon_245 : decode b_X_reckon 245 = .ok (.iload 4, 2) := by decide +kernel
theorem d_X_reckon_247 : decode b_X_reckon 247 = .ok (.goto 4, 3) := by decide +kernel
theorem d_X_reckon_250 : decode b_X_reckon 250 = .ok (.iconst 0, 1) := by decide +kernel
theorem d_X_reckon_251 : decode b_X_reckon 251 = .ok (.invokestatic 40, 3) := by decide +kernel
theorem d_X_reckon_254 : decode b_X_reckon 254 = .ok (.putfield 44, 3) := by decide +kernel
theorem d_X_reckon_257 : decode b_X_reckon 257 = .ok (.iconst 0, 1) := by decide +kernel
theorem d_X_reckon_258 : decode b_X_reckon 258 = .ok (.ireturn, 1) := by decide +kernel
theorem d_X_touch_0 : decode b_X_touch 0 = .ok (.iload_n 3, 1) := by decide +kernel
theorem d_X_touch_1 : decode b_X_touch 1 = .ok (.bipush 16, 2) := by decide +kernel
theorem d_X_touch_3 : decode b_X_touch 3 = .ok (.invokestatic 26, 3) := by decide +kernel
theorem d_X_touch_6 : decode b_X_touch 6 = .ok (.ifCond .ne 5, 3) := by decide +kernel
theorem d_X_touch_9 : decode b_X_touch 9 = .ok (.iconst 3, 1) := by decide +kernel
theorem d_X_touch_10 : decode b_X_touch 10 = .ok (.ireturn, 1) := by decide +kernel
theorem d_X_touch_11 : decode b_X_touch 11 = .ok (.bipush 22, 2) := by decide +kernel
theorem d_X_touch_13 : decode b_X_touch 13 = .ok (.bipush 16, 2) := by decide +kernel
theorem d_X_touch_15 : decode b_X_touch 15 = .ok (.iload 4, 2) := by decide +kernel
theorem d_X_touch_17 : decode b_X_touch 17 = .ok (.imul, 1) := by decide +kernel
theorem d_X_touch_18 : decode b_X_touch 18 = .ok (.iadd, 1) := by decide +kernel
theorem d_X_touch_19 : decode b_X_touch 19 = .ok (.iload_n 3, 1) := by decide +kernel
theorem d_X_touch_20 : decode b_X_touch 20 = .ok (.iadd, 1) := by decide +kernel
theorem d_X_touch_21 : decode b_X_touch 21 = .ok (.istore 5, 2) := by decide +kernel
theorem d_X_touch_23 : decode b_X_touch 23 = .ok (.iload_n 2, 1) := by decide +kernel
theorem d_X_touch_24 : decode b_X_touch 24 = .ok (.bipush 11, 2) := by decide +kernel
theorem d_X_touch_26 : decode b_X_touch 26 = .ok (.if_icmp .ne 24, 3) := by decide +kernel
theorem d_X_touch_29 : decode b_X_touch 29 = .ok (.aload_n 0, 1) := by decide +kernel
theorem d_X_touch_30 : decode b_X_touch 30 = .ok (.iload_n 1, 1) := by decide +kernel
theorem d_X_touch_31 : decode b_X_touch 31 = .ok (.bipush 24, 2) := by decide +kernel
theorem d_X_touch_33 : decode b_X_touch 33 = .ok (.iushr, 1) := by decide +kernel
theorem d_X_touch_34 : decode b_X_touch 34 = .ok (.bipush 7, 2) := by decide +kernel
theorem d_X_touch_36 : decode b_X_touch 36 = .ok (.iand, 1) := by decide +kernel
theorem d_X_touch_37 : decode b_X_touch 37 = .ok (.aload_n 0, 1) := by decide +kernel
theorem d_X_touch_38 : decode b_X_touch 38 = .ok (.getfield 7, 3) := by decide +kernel
theorem d_X_touch_41 : decode b_X_touch 41 = .ok (.iload 5, 2) := by decide +kernel
theorem d_X_touch_43 : decode b_X_touch 43 = .ok (.iaload, 1) := by decide +kernel
theorem d_X_touch_44 : decode b_X_touch 44 = .ok (.invokevirtual 36, 3) := by decide +kernel
theorem d_X_touch_47 : decode b_X_touch 47 = .ok (.goto 25, 3) := by decide +kernel
theorem d_X_touch_50 : decode b_X_touch 50 = .ok (.aload_n 0, 1) := by decide +kernel
theorem d_X_touch_51 : decode b_X_touch 51 = .ok (.getfield 7, 3) := by decide +kernel
theorem d_X_touch_54 : decode b_X_touch 54 = .ok (.iload 5, 2) := by decide +kernel
theorem d_X_touch_56 : decode b_X_touch 56 = .ok (.aload_n 0, 1) := by decide +kernel
theorem d_X_touch_57 : decode b_X_touch 57 = .ok (.getfield 7, 3) := by decide +kernel
theorem d_X_touch_60 : decode b_X_touch 60 = .ok (.bipush 10, 2) := by decide +kernel
theorem d_X_touch_62 : decode b_X_touch 62 = .ok (.iload_n 1, 1) := by decide +kernel
theorem d_X_touch_63 : decode b_X_touch 63 = .ok (.bipush 24, 2) := by decide +kernel
theorem d_X_touch_65 : decode b_X_touch 65 = .ok (.iushr, 1) := by decide +kernel
theorem d_X_touch_66 : decode b_X_touch 66 = .ok (.bipush 7, 2) := by decide +kernel
theorem d_X_touch_68 : decode b_X_touch 68 = .ok (.iand, 1) := by decide +kernel
theorem d_X_touch_69 : decode b_X_touch 69 = .ok (.iadd, 1) := by decide +kernel
theorem d_X_touch_70 : decode b_X_touch 70 = .ok (.iaload, 1) := by decide +kernel
theorem d_X_touch_71 : decode b_X_touch 71 = .ok (.iastore, 1) := by decide +kernel
theorem d_X_touch_72 : decode b_X_touch 72 = .ok (.iconst 0, 1) := by decide +kernel
theorem d_X_touch_73 : decode b_X_touch 73 = .ok (.ireturn, 1) := by decide +kernel
theorem d_X_branch_0 : decode b_X_branch 0 = .ok (.iload_n 1, 1) := by decide +kernel
theorem d_X_branch_1 : decode b_X_branch 1 = .ok (.bipush 24, 2) := by decide +kernel
theorem d_X_branch_3 : decode b_X_branch 3 = .ok (.iushr, 1) := by decide +kernel
theorem d_X_branch_4 : decode b_X_branch 4 = .ok (.bipush 7, 2) := by decide +kernel
theorem d_X_branch_6 : decode b_X_branch 6 = .ok (.iand, 1) := by decide +kernel
theorem d_X_branch_7 : decode b_X_branch 7 = .ok (.istore 6, 2) := by decide +kernel
theorem d_X_branch_9 : decode b_X_branch 9 = .ok (.iload_n 1, 1) := by decide +kernel
theorem d_X_branch_10 : decode b_X_branch 10 = .ok (.bipush 14, 2) := by decide +kernel
theorem d_X_branch_12 : decode b_X_branch 12 = .ok (.iushr, 1) := by decide +kernel
theorem d_X_branch_13 : decode b_X_branch 13 = .ok (.iconst 1, 1) := by decide +kernel
theorem d_X_branch_14 : decode b_X_branch 14 = .ok (.iand, 1) := by decide +kernel
theorem d_X_branch_15 : decode b_X_branch 15 = .ok (.iconst 1, 1) := by decide +kernel
theorem d_X_branch_16 : decode b_X_branch 16 = .ok (.if_icmp .ne 7, 3) := by decide +kernel
theorem d_X_branch_19 : decode b_X_branch 19 = .ok (.iconst 1, 1) := by decide +kernel
theorem d_X_branch_20 : decode b_X_branch 20 = .ok (.goto 4, 3) := by decide +kernel
theorem d_X_branch_23 : decode b_X_branch 23 = .ok (.iconst 0, 1) := by decide +kernel
theorem d_X_branch_24 : decode b_X_branch 24 = .ok (.istore 7, 2) := by decide +kernel
theorem d_X_branch_26 : decode b_X_branch 26 = .ok (.aload_n 0, 1) := by decide +kernel
theorem d_X_branch_27 : decode b_X_branch 27 = .ok (.getfield 7, 3) := by decide +kernel
theorem d_X_branch_30 : decode b_X_branch 30 = .ok (.iconst 0, 1) := by decide +kernel
theorem d_X_branch_31 : decode b_X_branch 31 = .ok (.iaload, 1) := by decide +kernel
theorem d_X_branch_32 : decode b_X_branch 32 = .ok (.bipush 32, 2) := by decide +kernel
theorem d_X_branch_34 : decode b_X_branch 34 = .ok (.idiv, 1) := by decide +kernel
theorem d_X_branch_35 : decode b_X_branch 35 = .ok (.istore 8, 2) := by decide +kernel
theorem d_X_branch_37 : decode b_X_branch 37 = .ok (.iconst 1, 1) := by decide +kernel
theorem d_X_branch_38 : decode b_X_branch 38 = .ok (.istore 9, 2) := by decide +kernel
theorem d_X_branch_40 : decode b_X_branch 40 = .ok (.iload_n 2, 1) := by decide +kernel
theorem d_X_branch_41 : decode b_X_branch 41 = .ok (.bipush 13, 2) := by decide +kernel
theorem d_X_branch_43 : decode b_X_branch 43 = .ok (.if_icmp .ne 23, 3) := by decide +kernel
theorem d_X_branch_46 : decode b_X_branch 46 = .ok (.aload_n 0, 1) := by decide +kernel
theorem d_X_branch_47 : decode b_X_branch 47 = .ok (.iload 6, 2) := by decide +kernel
theorem d_X_branch_49 : decode b_X_branch 49 = .ok (.aload_n 0, 1) := by decide +kernel
theorem d_X_branch_50 : decode b_X_branch 50 = .ok (.getfield 7, 3) := by decide +kernel
theorem d_X_branch_53 : decode b_X_branch 53 = .ok (.iconst 1, 1) := by decide +kernel
theorem d_X_branch_54 : decode b_X_branch 54 = .ok (.iaload, 1) := by decide +kernel
theorem d_X_branch_55 : decode b_X_branch 55 = .ok (.iconst 1, 1) := by decide +kernel
theorem d_X_branch_56 : decode b_X_branch 56 = .ok (.iadd, 1) := by decide +kernel
theorem d_X_branch_57 : decode b_X_branch 57 = .ok (.bipush 31, 2) := by decide +kernel
theorem d_X_branch_59 : decode b_X_branch 59 = .ok (.iand, 1) := by decide +kernel
theorem d_X_branch_60 : decode b_X_branch 60 = .ok (.invokevirtual 36, 3) := by decide +kernel
theorem d_X_branch_63 : decode b_X_branch 63 = .ok (.goto 70, 3) := by decide +kernel
theorem d_X_branch_66 : decode b_X_branch 66 = .ok (.iload_n 2, 1) := by decide +kernel
theorem d_X_branch_67 : decode b_X_branch 67 = .ok (.bipush 14, 2) := by decide +kernel
theorem d_X_branch_69 : decode b_X_branch 69 = .ok (.if_icmp .ne 21, 3) := by decide +kernel
theorem d_X_branch_72 : decode b_X_branch 72 = .ok (.iload_n 1, 1) := by decide +kernel
theorem d_X_branch_73 : decode b_X_branch 73 = .ok (.bipush 15, 2) := by decide +kernel
theorem d_X_branch_75 : decode b_X_branch 75 = .ok (.iushr, 1) := by decide +kernel
theorem d_X_branch_76 : decode b_X_branch 76 = .ok (.bipush 7, 2) := by decide +kernel
theorem d_X_branch_78 : decode b_X_branch 78 = .ok (.iand, 1) := by decide +kernel
theorem d_X_branch_79 : decode b_X_branch 79 = .ok (.iload_n 3, 1) := by decide +kernel
theorem d_X_branch_80 : decode b_X_branch 80 = .ok (.iload 4, 2) := by decide +kernel
theorem d_X_branch_82 : decode b_X_branch 82 = .ok (.invokestatic 40, 3) := by decide +kernel
theorem d_X_branch_85 : decode b_X_branch 85 = .ok (.istore 9, 2) := by decide +kernel
theorem d_X_branch_87 : decode b_X_branch 87 = .ok (.goto 46, 3) := by decide +kernel
theorem d_X_branch_90 : decode b_X_branch 90 = .ok (.iload_n 2, 1) := by decide +kernel
theorem d_X_branch_91 : decode b_X_branch 91 = .ok (.bipush 15, 2) := by decide +kernel
theorem d_X_branch_93 : decode b_X_branch 93 = .ok (.if_icmp .ne 40, 3) := by decide +kernel
theorem d_X_branch_96 : decode b_X_branch 96 = .ok (.aload_n 0, 1) := by decide +kernel
theorem d_X_branch_97 : decode b_X_branch 97 = .ok (.getfield 7, 3) := by decide +kernel
theorem d_X_branch_100 : decode b_X_branch 100 = .ok (.bipush 10, 2) := by decide +kernel
theorem d_X_branch_102 : decode b_X_branch 102 = .ok (.iload 6, 2) := by decide +kernel
theorem d_X_branch_104 : decode b_X_branch 104 = .ok (.iadd, 1) := by decide +kernel
theorem d_X_branch_105 : decode b_X_branch 105 = .ok (.iaload, 1) := by decide +kernel
theorem d_X_branch_106 : decode b_X_branch 106 = .ok (.iload_n 3, 1) := by decide +kernel
theorem d_X_branch_107 : decode b_X_branch 107 = .ok (.iadd, 1) := by decide +kernel
theorem d_X_branch_108 : decode b_X_branch 108 = .ok (.istore 10, 2) := by decide +kernel
theorem d_X_branch_110 : decode b_X_branch 110 = .ok (.aload_n 0, 1) := by decide +kernel
theorem d_X_branch_111 : decode b_X_branch 111 = .ok (.iload 6, 2) := by decide +kernel
theorem d_X_branch_113 : decode b_X_branch 113 = .ok (.iload 10, 2) := by decide +kernel
theorem d_X_branch_115 : decode b_X_branch 115 = .ok (.invokevirtual 36, 3) := by decide +kernel
theorem d_X_branch_118 : decode b_X_branch 118 = .ok (.iload_n 1, 1) := by decide +kernel
theorem d_X_branch_119 : decode b_X_branch 119 = .ok (.bipush 15, 2) := by decide +kernel
theorem d_X_branch_121 : decode b_X_branch 121 = .ok (.iushr, 1) := by decide +kernel
theorem d_X_branch_122 : decode b_X_branch 122 = .ok (.bipush 7, 2) := by decide +kernel
theorem d_X_branch_124 : decode b_X_branch 124 = .ok (.iand, 1) := by decide +kernel
theorem d_X_branch_125 : decode b_X_branch 125 = .ok (.iload 10, 2) := by decide +kernel
theorem d_X_branch_127 : decode b_X_branch 127 = .ok (.iconst 0, 1) := by decide +kernel
theorem d_X_branch_128 : decode b_X_branch 128 = .ok (.invokestatic 40, 3) := by decide +kernel
theorem d_X_branch_131 : decode b_X_branch 131 = .ok (.istore 9, 2) := by decide +kernel
theorem d_X_branch_133 : decode b_X_branch 133 = .ok (.iload_n 2, 1) := by decide +kernel
theorem d_X_branch_134 : decode b_X_branch 134 = .ok (.bipush 14, 2) := by decide +kernel
theorem d_X_branch_136 : decode b_X_branch 136 = .ok (.if_icmp .eq 9, 3) := by decide +kernel
theorem d_X_branch_139 : decode b_X_branch 139 = .ok (.iload_n 2, 1) := by decide +kernel
theorem d_X_branch_140 : decode b_X_branch 140 = .ok (.bipush 15, 2) := by decide +kernel
theorem d_X_branch_142 : decode b_X_branch 142 = .ok (.if_icmp .ne 7, 3) := by decide +kernel
theorem d_X_branch_145 : decode b_X_branch 145 = .ok (.iconst 1, 1) := by decide +kernel
theorem d_X_branch_146 : decode b_X_branch 146 = .ok (.goto 4, 3) := by decide +kernel
theorem d_X_branch_149 : decode b_X_branch 149 = .ok (.iconst 0, 1) := by decide +kernel
theorem d_X_branch_150 : decode b_X_branch 150 = .ok (.istore 10, 2) := by decide +kernel
theorem d_X_branch_152 : decode b_X_branch 152 = .ok (.aload_n 0, 1) := by decide +kernel
theorem d_X_branch_153 : decode b_X_branch 153 = .ok (.iload 7, 2) := by decide +kernel
theorem d_X_branch_155 : decode b_X_branch 155 = .ok (.ifCond .eq 27, 3) := by decide +kernel
theorem d_X_branch_158 : decode b_X_branch 158 = .ok (.iload 10, 2) := by decide +kernel
theorem d_X_branch_160 : decode b_X_branch 160 = .ok (.ifCond .eq 18, 3) := by decide +kernel
theorem d_X_branch_163 : decode b_X_branch 163 = .ok (.iload 9, 2) := by decide +kernel
theorem d_X_branch_165 : decode b_X_branch 165 = .ok (.iload 5, 2) := by decide +kernel
theorem d_X_branch_167 : decode b_X_branch 167 = .ok (.ifCond .lt 7, 3) := by decide +kernel
theorem d_X_branch_170 : decode b_X_branch 170 = .ok (.iconst 1, 1) := by decide +kernel
theorem d_X_branch_171 : decode b_X_branch 171 = .ok (.goto 4, 3) := by decide +kernel
theorem d_X_branch_174 : decode b_X_branch 174 = .ok (.iconst 0, 1) := by decide +kernel
theorem d_X_branch_175 : decode b_X_branch 175 = .ok (.if_icmp .ne 7, 3) := by decide +kernel
theorem d_X_branch_178 : decode b_X_branch 178 = .ok (.iconst 1, 1) := by decide +kernel
theorem d_X_branch_179 : decode b_X_branch 179 = .ok (.goto 4, 3) := by decide +kernel
theorem d_X_branch_182 : decode b_X_branch 182 = .ok (.iconst 0, 1) := by decide +kernel
theorem d_X_branch_183 : decode b_X_branch 183 = .ok (.putfield 44, 3) := by decide +kernel
theorem d_X_branch_186 : decode b_X_branch 186 = .ok (.iload_n 2, 1) := by decide +kernel
theorem d_X_branch_187 : decode b_X_branch 187 = .ok (.bipush 16, 2) := by decide +kernel
theorem d_X_branch_189 : decode b_X_branch 189 = .ok (.if_icmp .ge 22, 3) := by decide +kernel
theorem d_X_branch_192 : decode b_X_branch 192 = .ok (.iload 8, 2) := by decide +kernel
theorem d_X_branch_194 : decode b_X_branch 194 = .ok (.aload_n 0, 1) := by decide +kernel
theorem d_X_branch_195 : decode b_X_branch 195 = .ok (.getfield 7, 3) := by decide +kernel
theorem d_X_branch_198 : decode b_X_branch 198 = .ok (.iconst 0, 1) := by decide +kernel
theorem d_X_branch_199 : decode b_X_branch 199 = .ok (.iaload, 1) := by decide +kernel
theorem d_X_branch_200 : decode b_X_branch 200 = .ok (.iconst 2, 1) := by decide +kernel
theorem d_X_branch_201 : decode b_X_branch 201 = .ok (.iadd, 1) := by decide +kernel
theorem d_X_branch_202 : decode b_X_branch 202 = .ok (.iload 5, 2) := by decide +kernel
theorem d_X_branch_204 : decode b_X_branch 204 = .ok (.iadd, 1) := by decide +kernel
theorem d_X_branch_205 : decode b_X_branch 205 = .ok (.invokestatic 22, 3) := by decide +kernel
theorem d_X_branch_208 : decode b_X_branch 208 = .ok (.goto 35, 3) := by decide +kernel
theorem d_X_branch_211 : decode b_X_branch 211 = .ok (.iload_n 2, 1) := by decide +kernel
theorem d_X_branch_212 : decode b_X_branch 212 = .ok (.bipush 16, 2) := by decide +kernel
theorem d_X_branch_214 : decode b_X_branch 214 = .ok (.if_icmp .ne 8, 3) := by decide +kernel
theorem d_X_branch_217 : decode b_X_branch 217 = .ok (.iload 8, 2) := by decide +kernel
theorem d_X_branch_219 : decode b_X_branch 219 = .ok (.goto 17, 3) := by decide +kernel
theorem d_X_branch_222 : decode b_X_branch 222 = .ok (.aload_n 0, 1) := by decide +kernel
theorem d_X_branch_223 : decode b_X_branch 223 = .ok (.getfield 7, 3) := by decide +kernel
theorem d_X_branch_226 : decode b_X_branch 226 = .ok (.bipush 18, 2) := by decide +kernel
theorem d_X_branch_228 : decode b_X_branch 228 = .ok (.iload_n 1, 1) := by decide +kernel
theorem d_X_branch_229 : decode b_X_branch 229 = .ok (.bipush 18, 2) := by decide +kernel
theorem d_X_branch_231 : decode b_X_branch 231 = .ok (.iushr, 1) := by decide +kernel
theorem d_X_branch_232 : decode b_X_branch 232 = .ok (.iconst 3, 1) := by decide +kernel
theorem d_X_branch_233 : decode b_X_branch 233 = .ok (.iand, 1) := by decide +kernel
theorem d_X_branch_234 : decode b_X_branch 234 = .ok (.iadd, 1) := by decide +kernel
theorem d_X_branch_235 : decode b_X_branch 235 = .ok (.iaload, 1) := by decide +kernel
theorem d_X_branch_236 : decode b_X_branch 236 = .ok (.iload_n 3, 1) := by decide +kernel
theorem d_X_branch_237 : decode b_X_branch 237 = .ok (.iload 5, 2) := by decide +kernel
theorem d_X_branch_239 : decode b_X_branch 239 = .ok (.iadd, 1) := by decide +kernel
theorem d_X_branch_240 : decode b_X_branch 240 = .ok (.invokestatic 22, 3) := by decide +kernel
theorem d_X_branch_243 : decode b_X_branch 243 = .ok (.istore 11, 2) := by decide +kernel
theorem d_X_branch_245 : decode b_X_branch 245 = .ok (.aload_n 0, 1) := by decide +kernel
theorem d_X_branch_246 : decode b_X_branch 246 = .ok (.iload 9, 2) := by decide +kernel
