theorem d_Q_init_0 : decode b_Q_init 0 = .ok (.aload_n 0, 1) := by decide +kernel
theorem d_Q_init_1 : decode b_Q_init 1 = .ok (.invokespecial 1, 3) := by decide +kernel
theorem d_Q_init_4 : decode b_Q_init 4 = .ok (.aload_n 0, 1) := by decide +kernel
theorem d_Q_init_5 : decode b_Q_init 5 = .ok (.sipush 128, 3) := by decide +kernel
theorem d_Q_init_8 : decode b_Q_init 8 = .ok (.newarray .int, 2) := by decide +kernel
theorem d_Q_init_10 : decode b_Q_init 10 = .ok (.putfield 9, 3) := by decide +kernel
theorem d_Q_init_13 : decode b_Q_init 13 = .ok (.aload_n 0, 1) := by decide +kernel
theorem d_Q_init_14 : decode b_Q_init 14 = .ok (.bipush 7, 2) := by decide +kernel
theorem d_Q_init_16 : decode b_Q_init 16 = .ok (.newarray .int, 2) := by decide +kernel
theorem d_Q_init_18 : decode b_Q_init 18 = .ok (.putfield 13, 3) := by decide +kernel
theorem d_Q_init_21 : decode b_Q_init 21 = .ok (.aload_n 0, 1) := by decide +kernel
theorem d_Q_init_22 : decode b_Q_init 22 = .ok (.new 16, 3) := by decide +kernel
theorem d_Q_init_25 : decode b_Q_init 25 = .ok (.dup, 1) := by decide +kernel
theorem d_Q_init_26 : decode b_Q_init 26 = .ok (.invokespecial 18, 3) := by decide +kernel
theorem d_Q_init_29 : decode b_Q_init 29 = .ok (.putfield 19, 3) := by decide +kernel
theorem d_Q_init_32 : decode b_Q_init 32 = .ok (.aload_n 0, 1) := by decide +kernel
theorem d_Q_init_33 : decode b_Q_init 33 = .ok (.new 16, 3) := by decide +kernel
theorem d_Q_init_36 : decode b_Q_init 36 = .ok (.dup, 1) := by decide +kernel
theorem d_Q_init_37 : decode b_Q_init 37 = .ok (.invokespecial 18, 3) := by decide +kernel
theorem d_Q_init_40 : decode b_Q_init 40 = .ok (.putfield 23, 3) := by decide +kernel
theorem d_Q_init_43 : decode b_Q_init 43 = .ok (.aload_n 0, 1) := by decide +kernel
theorem d_Q_init_44 : decode b_Q_init 44 = .ok (.iconst 0, 1) := by decide +kernel
theorem d_Q_init_45 : decode b_Q_init 45 = .ok (.putfield 26, 3) := by decide +kernel
theorem d_Q_init_48 : decode b_Q_init 48 = .ok (.return_, 1) := by decide +kernel
theorem d_Q_code_0 : decode b_Q_code 0 = .ok (.iload_n 1, 1) := by decide +kernel
theorem d_Q_code_1 : decode b_Q_code 1 = .ok (.iload_n 2, 1) := by decide +kernel
theorem d_Q_code_2 : decode b_Q_code 2 = .ok (.invokestatic 30, 3) := by decide +kernel
theorem d_Q_code_5 : decode b_Q_code 5 = .ok (.ifCond .ne 5, 3) := by decide +kernel
theorem d_Q_code_8 : decode b_Q_code 8 = .ok (.iconst 0, 1) := by decide +kernel
theorem d_Q_code_9 : decode b_Q_code 9 = .ok (.ireturn, 1) := by decide +kernel
theorem d_Q_code_10 : decode b_Q_code 10 = .ok (.aload_n 0, 1) := by decide +kernel
theorem d_Q_code_11 : decode b_Q_code 11 = .ok (.getfield 9, 3) := by decide +kernel
theorem d_Q_code_14 : decode b_Q_code 14 = .ok (.iload_n 1, 1) := by decide +kernel
theorem d_Q_code_15 : decode b_Q_code 15 = .ok (.iload_n 2, 1) := by decide +kernel
theorem d_Q_code_16 : decode b_Q_code 16 = .ok (.invokestatic 34, 3) := by decide +kernel
theorem d_Q_code_19 : decode b_Q_code 19 = .ok (.iload_n 3, 1) := by decide +kernel
theorem d_Q_code_20 : decode b_Q_code 20 = .ok (.iastore, 1) := by decide +kernel
theorem d_Q_code_21 : decode b_Q_code 21 = .ok (.iconst 1, 1) := by decide +kernel
theorem d_Q_code_22 : decode b_Q_code 22 = .ok (.ireturn, 1) := by decide +kernel
theorem d_Q_data_0 : decode b_Q_data 0 = .ok (.iload_n 1, 1) := by decide +kernel
theorem d_Q_data_1 : decode b_Q_data 1 = .ok (.invokestatic 40, 3) := by decide +kernel
theorem d_Q_data_4 : decode b_Q_data 4 = .ok (.ifCond .eq 10, 3) := by decide +kernel
theorem d_Q_data_7 : decode b_Q_data 7 = .ok (.iload_n 2, 1) := by decide +kernel
theorem d_Q_data_8 : decode b_Q_data 8 = .ok (.invokestatic 44, 3) := by decide +kernel
theorem d_Q_data_11 : decode b_Q_data 11 = .ok (.ifCond .ne 5, 3) := by decide +kernel
theorem d_Q_data_14 : decode b_Q_data 14 = .ok (.iconst 0, 1) := by decide +kernel
theorem d_Q_data_15 : decode b_Q_data 15 = .ok (.ireturn, 1) := by decide +kernel
theorem d_Q_data_16 : decode b_Q_data 16 = .ok (.aload_n 0, 1) := by decide +kernel
theorem d_Q_data_17 : decode b_Q_data 17 = .ok (.getfield 19, 3) := by decide +kernel
theorem d_Q_data_20 : decode b_Q_data 20 = .ok (.getfield 47, 3) := by decide +kernel
theorem d_Q_data_23 : decode b_Q_data 23 = .ok (.iload_n 1, 1) := by decide +kernel
theorem d_Q_data_24 : decode b_Q_data 24 = .ok (.iload_n 2, 1) := by decide +kernel
theorem d_Q_data_25 : decode b_Q_data 25 = .ok (.invokestatic 50, 3) := by decide +kernel
theorem d_Q_data_28 : decode b_Q_data 28 = .ok (.iload_n 3, 1) := by decide +kernel
theorem d_Q_data_29 : decode b_Q_data 29 = .ok (.iastore, 1) := by decide +kernel
theorem d_Q_data_30 : decode b_Q_data 30 = .ok (.iconst 1, 1) := by decide +kernel
theorem d_Q_data_31 : decode b_Q_data 31 = .ok (.ireturn, 1) := by decide +kernel
theorem d_Q_set_0 : decode b_Q_set 0 = .ok (.iload_n 1, 1) := by decide +kernel
theorem d_Q_set_1 : decode b_Q_set 1 = .ok (.invokestatic 53, 3) := by decide +kernel
theorem d_Q_set_4 : decode b_Q_set 4 = .ok (.ifCond .eq 7, 3) := by decide +kernel
theorem d_Q_set_7 : decode b_Q_set 7 = .ok (.iload_n 1, 1) := by decide +kernel
theorem d_Q_set_8 : decode b_Q_set 8 = .ok (.ifCond .ne 5, 3) := by decide +kernel
theorem d_Q_set_11 : decode b_Q_set 11 = .ok (.iconst 0, 1) := by decide +kernel
theorem d_Q_set_12 : decode b_Q_set 12 = .ok (.ireturn, 1) := by decide +kernel
theorem d_Q_set_13 : decode b_Q_set 13 = .ok (.aload_n 0, 1) := by decide +kernel
theorem d_Q_set_14 : decode b_Q_set 14 = .ok (.getfield 19, 3) := by decide +kernel
theorem d_Q_set_17 : decode b_Q_set 17 = .ok (.getfield 56, 3) := by decide +kernel
theorem d_Q_set_20 : decode b_Q_set 20 = .ok (.iload_n 1, 1) := by decide +kernel
theorem d_Q_set_21 : decode b_Q_set 21 = .ok (.iload_n 2, 1) := by decide +kernel
theorem d_Q_set_22 : decode b_Q_set 22 = .ok (.iastore, 1) := by decide +kernel
theorem d_Q_set_23 : decode b_Q_set 23 = .ok (.iconst 1, 1) := by decide +kernel
theorem d_Q_set_24 : decode b_Q_set 24 = .ok (.ireturn, 1) := by decide +kernel
theorem d_Q_setSpace_0 : decode b_Q_setSpace 0 = .ok (.iload_n 1, 1) := by decide +kernel
theorem d_Q_setSpace_1 : decode b_Q_setSpace 1 = .ok (.invokestatic 59, 3) := by decide +kernel
theorem d_Q_setSpace_4 : decode b_Q_setSpace 4 = .ok (.ifCond .eq 10, 3) := by decide +kernel
theorem d_Q_setSpace_7 : decode b_Q_setSpace 7 = .ok (.iload_n 2, 1) := by decide +kernel
theorem d_Q_setSpace_8 : decode b_Q_setSpace 8 = .ok (.invokestatic 40, 3) := by decide +kernel
theorem d_Q_setSpace_11 : decode b_Q_setSpace 11 = .ok (.ifCond .ne 5, 3) := by decide +kernel
theorem d_Q_setSpace_14 : decode b_Q_setSpace 14 = .ok (.iconst 0, 1) := by decide +kernel
theorem d_Q_setSpace_15 : decode b_Q_setSpace 15 = .ok (.ireturn, 1) := by decide +kernel
theorem d_Q_setSpace_16 : decode b_Q_setSpace 16 = .ok (.aload_n 0, 1) := by decide +kernel
theorem d_Q_setSpace_17 : decode b_Q_setSpace 17 = .ok (.getfield 19, 3) := by decide +kernel
theorem d_Q_setSpace_20 : decode b_Q_setSpace 20 = .ok (.getfield 62, 3) := by decide +kernel
theorem d_Q_setSpace_23 : decode b_Q_setSpace 23 = .ok (.iload_n 1, 1) := by decide +kernel
theorem d_Q_setSpace_24 : decode b_Q_setSpace 24 = .ok (.iload_n 2, 1) := by decide +kernel
theorem d_Q_setSpace_25 : decode b_Q_setSpace 25 = .ok (.iastore, 1) := by decide +kernel
theorem d_Q_setSpace_26 : decode b_Q_setSpace 26 = .ok (.iconst 1, 1) := by decide +kernel
theorem d_Q_setSpace_27 : decode b_Q_setSpace 27 = .ok (.ireturn, 1) := by decide +kernel
theorem d_Q_go_0 : decode b_Q_go 0 = .ok (.iload_n 1, 1) := by decide +kernel
theorem d_Q_go_1 : decode b_Q_go 1 = .ok (.iload_n 2, 1) := by decide +kernel
theorem d_Q_go_2 : decode b_Q_go 2 = .ok (.invokestatic 30, 3) := by decide +kernel
theorem d_Q_go_5 : decode b_Q_go 5 = .ok (.ifCond .ne 5, 3) := by decide +kernel
theorem d_Q_go_8 : decode b_Q_go 8 = .ok (.iconst 0, 1) := by decide +kernel
theorem d_Q_go_9 : decode b_Q_go 9 = .ok (.ireturn, 1) := by decide +kernel
theorem d_Q_go_10 : decode b_Q_go 10 = .ok (.aload_n 0, 1) := by decide +kernel
theorem d_Q_go_11 : decode b_Q_go 11 = .ok (.getfield 19, 3) := by decide +kernel
theorem d_Q_go_14 : decode b_Q_go 14 = .ok (.getfield 65, 3) := by decide +kernel
theorem d_Q_go_17 : decode b_Q_go 17 = .ok (.iload_n 1, 1) := by decide +kernel
theorem d_Q_go_18 : decode b_Q_go 18 = .ok (.iload_n 2, 1) := by decide +kernel
theorem d_Q_go_19 : decode b_Q_go 19 = .ok (.invokestatic 34, 3) := by decide +kernel
theorem d_Q_go_22 : decode b_Q_go 22 = .ok (.iload_n 3, 1) := by decide +kernel
theorem d_Q_go_23 : decode b_Q_go 23 = .ok (.ifCond .eq 7, 3) := by decide +kernel
theorem d_Q_go_26 : decode b_Q_go 26 = .ok (.iconst 1, 1) := by decide +kernel
theorem d_Q_go_27 : decode b_Q_go 27 = .ok (.goto 4, 3) := by decide +kernel
theorem d_Q_go_30 : decode b_Q_go 30 = .ok (.iconst 0, 1) := by decide +kernel
theorem d_Q_go_31 : decode b_Q_go 31 = .ok (.invokevirtual 69, 3) := by decide +kernel
theorem d_Q_go_34 : decode b_Q_go 34 = .ok (.iconst 1, 1) := by decide +kernel
theorem d_Q_go_35 : decode b_Q_go 35 = .ok (.ireturn, 1) := by decide +kernel
theorem d_Q_interrupt_0 : decode b_Q_interrupt 0 = .ok (.aload_n 0, 1) := by decide +kernel
theorem d_Q_interrupt_1 : decode b_Q_interrupt 1 = .ok (.getfield 19, 3) := by decide +kernel
theorem d_Q_interrupt_4 : decode b_Q_interrupt 4 = .ok (.getfield 75, 3) := by decide +kernel
theorem d_Q_interrupt_7 : decode b_Q_interrupt 7 = .ok (.iconst 1, 1) := by decide +kernel
theorem d_Q_interrupt_8 : decode b_Q_interrupt 8 = .ok (.if_icmp .ne 5, 3) := by decide +kernel
theorem d_Q_interrupt_11 : decode b_Q_interrupt 11 = .ok (.iconst 0, 1) := by decide +kernel
theorem d_Q_interrupt_12 : decode b_Q_interrupt 12 = .ok (.ireturn, 1) := by decide +kernel
theorem d_Q_interrupt_13 : decode b_Q_interrupt 13 = .ok (.aload_n 0, 1) := by decide +kernel
theorem d_Q_interrupt_14 : decode b_Q_interrupt 14 = .ok (.getfield 19, 3) := by decide +kernel
theorem d_Q_interrupt_17 : decode b_Q_interrupt 17 = .ok (.iconst 1, 1) := by decide +kernel
theorem d_Q_interrupt_18 : decode b_Q_interrupt 18 = .ok (.putfield 75, 3) := by decide +kernel
theorem d_Q_interrupt_21 : decode b_Q_interrupt 21 = .ok (.iconst 1, 1) := by decide +kernel
theorem d_Q_interrupt_22 : decode b_Q_interrupt 22 = .ok (.ireturn, 1) := by decide +kernel
theorem d_Q_run_0 : decode b_Q_run 0 = .ok (.iload_n 1, 1) := by decide +kernel
theorem d_Q_run_1 : decode b_Q_run 1 = .ok (.ifCond .lt 10, 3) := by decide +kernel
theorem d_Q_run_4 : decode b_Q_run 4 = .ok (.iload_n 1, 1) := by decide +kernel
theorem d_Q_run_5 : decode b_Q_run 5 = .ok (.sipush 200, 3) := by decide +kernel
theorem d_Q_run_8 : decode b_Q_run 8 = .ok (.if_icmp .le 5, 3) := by decide +kernel
theorem d_Q_run_11 : decode b_Q_run 11 = .ok (.iconst (-1), 1) := by decide +kernel
theorem d_Q_run_12 : decode b_Q_run 12 = .ok (.ireturn, 1) := by decide +kernel
theorem d_Q_run_13 : decode b_Q_run 13 = .ok (.iconst 0, 1) := by decide +kernel
theorem d_Q_run_14 : decode b_Q_run 14 = .ok (.istore_n 2, 1) := by decide +kernel
theorem d_Q_run_15 : decode b_Q_run 15 = .ok (.iconst 0, 1) := by decide +kernel
theorem d_Q_run_16 : decode b_Q_run 16 = .ok (.istore_n 3, 1) := by decide +kernel
theorem d_Q_run_17 : decode b_Q_run 17 = .ok (.iload_n 3, 1) := by decide +kernel
theorem d_Q_run_18 : decode b_Q_run 18 = .ok (.iload_n 1, 1) := by decide +kernel
theorem d_Q_run_19 : decode b_Q_run 19 = .ok (.if_icmp .ge 19, 3) := by decide +kernel
theorem d_Q_run_22 : decode b_Q_run 22 = .ok (.aload_n 0, 1) := by decide +kernel
theorem d_Q_run_23 : decode b_Q_run 23 = .ok (.invokevirtual 79, 3) := by decide +kernel
theorem d_Q_run_26 : decode b_Q_run 26 = .ok (.ifCond .eq 6, 3) := by decide +kernel
theorem d_Q_run_29 : decode b_Q_run 29 = .ok (.iinc 2 1, 3) := by decide +kernel
theorem d_Q_run_32 : decode b_Q_run 32 = .ok (.iinc 3 1, 3) := by decide +kernel
theorem d_Q_run_35 : decode b_Q_run 35 = .ok (.goto (-18), 3) := by decide +kernel
theorem d_Q_run_38 : decode b_Q_run 38 = .ok (.iload_n 2, 1) := by decide +kernel
theorem d_Q_run_39 : decode b_Q_run 39 = .ok (.ireturn, 1) := by decide +kernel
theorem d_Q_state_0 : decode b_Q_state 0 = .ok (.iload_n 1, 1) := by decide +kernel
theorem d_Q_state_1 : decode b_Q_state 1 = .ok (.tableswitch 243 0 13 #[71, 85, 99, 113, 127, 138, 149, 157, 171, 185, 199, 213, 224, 235], 71) := by decide +kernel
theorem d_Q_state_72 : decode b_Q_state 72 = .ok (.aload_n 0, 1) := by decide +kernel
theorem d_Q_state_73 : decode b_Q_state 73 = .ok (.getfield 19, 3) := by decide +kernel
theorem d_Q_state_76 : decode b_Q_state 76 = .ok (.getfield 65, 3) := by decide +kernel
theorem d_Q_state_79 : decode b_Q_state 79 = .ok (.getfield 83, 3) := by decide +kernel
theorem d_Q_state_82 : decode b_Q_state 82 = .ok (.invokestatic 86, 3) := by decide +kernel
theorem d_Q_state_85 : decode b_Q_state 85 = .ok (.ireturn, 1) := by decide +kernel
theorem d_Q_state_86 : decode b_Q_state 86 = .ok (.aload_n 0, 1) := by decide +kernel
theorem d_Q_state_87 : decode b_Q_state 87 = .ok (.getfield 19, 3) := by decide +kernel
theorem d_Q_state_90 : decode b_Q_state 90 = .ok (.getfield 65, 3) := by decide +kernel
theorem d_Q_state_93 : decode b_Q_state 93 = .ok (.getfield 83, 3) := by decide +kernel
theorem d_Q_state_96 : decode b_Q_state 96 = .ok (.invokestatic 90, 3) := by decide +kernel
theorem d_Q_state_99 : decode b_Q_state 99 = .ok (.ireturn, 1) := by decide +kernel
theorem d_Q_state_100 : decode b_Q_state 100 = .ok (.aload_n 0, 1) := by decide +kernel
theorem d_Q_state_101 : decode b_Q_state 101 = .ok (.getfield 19, 3) := by decide +kernel
theorem d_Q_state_104 : decode b_Q_state 104 = .ok (.getfield 65, 3) := by decide +kernel
theorem d_Q_state_107 : decode b_Q_state 107 = .ok (.getfield 93, 3) := by decide +kernel
theorem d_Q_state_110 : decode b_Q_state 110 = .ok (.invokestatic 86, 3) := by decide +kernel
theorem d_Q_state_113 : decode b_Q_state 113 = .ok (.ireturn, 1) := by decide +kernel
theorem d_Q_state_114 : decode b_Q_state 114 = .ok (.aload_n 0, 1) := by decide +kernel
theorem d_Q_state_115 : decode b_Q_state 115 = .ok (.getfield 19, 3) := by decide +kernel
theorem d_Q_state_118 : decode b_Q_state 118 = .ok (.getfield 65, 3) := by decide +kernel
theorem d_Q_state_121 : decode b_Q_state 121 = .ok (.getfield 93, 3) := by decide +kernel
theorem d_Q_state_124 : decode b_Q_state 124 = .ok (.invokestatic 90, 3) := by decide +kernel
theorem d_Q_state_127 : decode b_Q_state 127 = .ok (.ireturn, 1) := by decide +kernel
theorem d_Q_state_128 : decode b_Q_state 128 = .ok (.aload_n 0, 1) := by decide +kernel
theorem d_Q_state_129 : decode b_Q_state 129 = .ok (.getfield 19, 3) := by decide +kernel
theorem d_Q_state_132 : decode b_Q_state 132 = .ok (.getfield 65, 3) := by decide +kernel
theorem d_Q_state_135 : decode b_Q_state 135 = .ok (.getfield 96, 3) := by decide +kernel
theorem d_Q_state_138 : decode b_Q_state 138 = .ok (.ireturn, 1) := by decide +kernel
theorem d_Q_state_139 : decode b_Q_state 139 = .ok (.aload_n 0, 1) := by decide +kernel
theorem d_Q_state_140 : decode b_Q_state 140 = .ok (.getfield 19, 3) := by decide +kernel
theorem d_Q_state_143 : decode b_Q_state 143 = .ok (.getfield 65, 3) := by decide +kernel
theorem d_Q_state_146 : decode b_Q_state 146 = .ok (.getfield 99, 3) := by decide +kernel
theorem d_Q_state_149 : decode b_Q_state 149 = .ok (.ireturn, 1) := by decide +kernel
theorem d_Q_state_150 : decode b_Q_state 150 = .ok (.aload_n 0, 1) := by decide +kernel
theorem d_Q_state_151 : decode b_Q_state 151 = .ok (.getfield 19, 3) := by decide +kernel
theorem d_Q_state_154 : decode b_Q_state 154 = .ok (.getfield 75, 3) := by decide +kernel
theorem d_Q_state_157 : decode b_Q_state 157 = .ok (.ireturn, 1) := by decide +kernel
theorem d_Q_state_158 : decode b_Q_state 158 = .ok (.aload_n 0, 1) := by decide +kernel
theorem d_Q_state_159 : decode b_Q_state 159 = .ok (.getfield 19, 3) := by decide +kernel
theorem d_Q_state_162 : decode b_Q_state 162 = .ok (.getfield 102, 3) := by decide +kernel
theorem d_Q_state_165 : decode b_Q_state 165 = .ok (.getfield 83, 3) := by decide +kernel
theorem d_Q_state_168 : decode b_Q_state 168 = .ok (.invokestatic 86, 3) := by decide +kernel
theorem d_Q_state_171 : decode b_Q_state 171 = .ok (.ireturn, 1) := by decide +kernel
theorem d_Q_state_172 : decode b_Q_state 172 = .ok (.aload_n 0, 1) := by decide +kernel
theorem d_Q_state_173 : decode b_Q_state 173 = .ok (.getfield 19, 3) := by decide +kernel
theorem d_Q_state_176 : decode b_Q_state 176 = .ok (.getfield 102, 3) := by decide +kernel
theorem d_Q_state_179 : decode b_Q_state 179 = .ok (.getfield 83, 3) := by decide +kernel
theorem d_Q_state_182 : decode b_Q_state 182 = .ok (.invokestatic 90, 3) := by decide +kernel
theorem d_Q_state_185 : decode b_Q_state 185 = .ok (.ireturn, 1) := by decide +kernel
theorem d_Q_state_186 : decode b_Q_state 186 = .ok (.aload_n 0, 1) := by decide +kernel
theorem d_Q_state_187 : decode b_Q_state 187 = .ok (.getfield 19, 3) := by decide +kernel
theorem d_Q_state_190 : decode b_Q_state 190 = .ok (.getfield 102, 3) := by decide +kernel
theorem d_Q_state_193 : decode b_Q_state 193 = .ok (.getfield 93, 3) := by decide +kernel
theorem d_Q_state_196 : decode b_Q_state 196 = .ok (.invokestatic 86, 3) := by decide +kernel
theorem d_Q_state_199 : decode b_Q_state 199 = .ok (.ireturn, 1) := by decide +kernel
theorem d_Q_state_200 : decode b_Q_state 200 = .ok (.aload_n 0, 1) := by decide +kernel
theorem d_Q_state_201 : decode b_Q_state 201 = .ok (.getfield 19, 3) := by decide +kernel
theorem d_Q_state_204 : decode b_Q_state 204 = .ok (.getfield 102, 3) := by decide +kernel
theorem d_Q_state_207 : decode b_Q_state 207 = .ok (.getfield 93, 3) := by decide +kernel
theorem d_Q_state_210 : decode b_Q_state 210 = .ok (.invokestatic 90, 3) := by decide +kernel
theorem d_Q_state_213 : decode b_Q_state 213 = .ok (.ireturn, 1) := by decide +kernel
theorem d_Q_state_214 : decode b_Q_state 214 = .ok (.aload_n 0, 1) := by decide +kernel
theorem d_Q_state_215 : decode b_Q_state 215 = .ok (.getfield 19, 3) := by decide +kernel
theorem d_Q_state_218 : decode b_Q_state 218 = .ok (.getfield 102, 3) := by decide +kernel
theorem d_Q_state_221 : decode b_Q_state 221 = .ok (.getfield 96, 3) := by decide +kernel
theorem d_Q_state_224 : decode b_Q_state 224 = .ok (.ireturn, 1) := by decide +kernel
theorem d_Q_state_225 : decode b_Q_state 225 = .ok (.aload_n 0, 1) := by decide +kernel
theorem d_Q_state_226 : decode b_Q_state 226 = .ok (.getfield 19, 3) := by decide +kernel
theorem d_Q_state_229 : decode b_Q_state 229 = .ok (.getfield 102, 3) := by decide +kernel
theorem d_Q_state_232 : decode b_Q_state 232 = .ok (.getfield 99, 3) := by decide +kernel
theorem d_Q_state_235 : decode b_Q_state 235 = .ok (.ireturn, 1) := by decide +kernel
theorem d_Q_state_236 : decode b_Q_state 236 = .ok (.aload_n 0, 1) := by decide +kernel
theorem d_Q_state_237 : decode b_Q_state 237 = .ok (.getfield 19, 3) := by decide +kernel
theorem d_Q_state_240 : decode b_Q_state 240 = .ok (.getfield 105, 3) := by decide +kernel
theorem d_Q_state_243 : decode b_Q_state 243 = .ok (.ireturn, 1) := by decide +kernel
theorem d_Q_state_244 : decode b_Q_state 244 = .ok (.iconst (-1), 1) := by decide +kernel
theorem d_Q_state_245 : decode b_Q_state 245 = .ok (.ireturn, 1) := by decide +kernel
theorem d_Q_register_0 : decode b_Q_register 0 = .ok (.iload_n 1, 1) := by decide +kernel
theorem d_Q_register_1 : decode b_Q_register 1 = .ok (.invokestatic 53, 3) := by decide +kernel
theorem d_Q_register_4 : decode b_Q_register 4 = .ok (.ifCond .eq 15, 3) := by decide +kernel
theorem d_Q_register_7 : decode b_Q_register 7 = .ok (.aload_n 0, 1) := by decide +kernel
theorem d_Q_register_8 : decode b_Q_register 8 = .ok (.getfield 19, 3) := by decide +kernel
theorem d_Q_register_11 : decode b_Q_register 11 = .ok (.getfield 56, 3) := by decide +kernel
theorem d_Q_register_14 : decode b_Q_register 14 = .ok (.iload_n 1, 1) := by decide +kernel
theorem d_Q_register_15 : decode b_Q_register 15 = .ok (.iaload, 1) := by decide +kernel
theorem d_Q_register_16 : decode b_Q_register 16 = .ok (.goto 4, 3) := by decide +kernel
theorem d_Q_register_19 : decode b_Q_register 19 = .ok (.iconst 0, 1) := by decide +kernel
theorem d_Q_register_20 : decode b_Q_register 20 = .ok (.ireturn, 1) := by decide +kernel
theorem d_Q_space_0 : decode b_Q_space 0 = .ok (.iload_n 1, 1) := by decide +kernel
theorem d_Q_space_1 : decode b_Q_space 1 = .ok (.invokestatic 59, 3) := by decide +kernel
theorem d_Q_space_4 : decode b_Q_space 4 = .ok (.ifCond .eq 15, 3) := by decide +kernel
theorem d_Q_space_7 : decode b_Q_space 7 = .ok (.aload_n 0, 1) := by decide +kernel
theorem d_Q_space_8 : decode b_Q_space 8 = .ok (.getfield 19, 3) := by decide +kernel
theorem d_Q_space_11 : decode b_Q_space 11 = .ok (.getfield 62, 3) := by decide +kernel
theorem d_Q_space_14 : decode b_Q_space 14 = .ok (.iload_n 1, 1) := by decide +kernel
theorem d_Q_space_15 : decode b_Q_space 15 = .ok (.iaload, 1) := by decide +kernel
theorem d_Q_space_16 : decode b_Q_space 16 = .ok (.goto 4, 3) := by decide +kernel
theorem d_Q_space_19 : decode b_Q_space 19 = .ok (.iconst (-1), 1) := by decide +kernel
theorem d_Q_space_20 : decode b_Q_space 20 = .ok (.ireturn, 1) := by decide +kernel
theorem d_Q_word_0 : decode b_Q_word 0 = .ok (.iload_n 1, 1) := by decide +kernel
theorem d_Q_word_1 : decode b_Q_word 1 = .ok (.iload_n 2, 1) := by decide +kernel
theorem d_Q_word_2 : decode b_Q_word 2 = .ok (.invokestatic 30, 3) := by decide +kernel
theorem d_Q_word_5 : decode b_Q_word 5 = .ok (.ifCond .eq 16, 3) := by decide +kernel
theorem d_Q_word_8 : decode b_Q_word 8 = .ok (.aload_n 0, 1) := by decide +kernel
theorem d_Q_word_9 : decode b_Q_word 9 = .ok (.getfield 9, 3) := by decide +kernel
theorem d_Q_word_12 : decode b_Q_word 12 = .ok (.iload_n 1, 1) := by decide +kernel
theorem d_Q_word_13 : decode b_Q_word 13 = .ok (.iload_n 2, 1) := by decide +kernel
theorem d_Q_word_14 : decode b_Q_word 14 = .ok (.invokestatic 34, 3) := by decide +kernel
theorem d_Q_word_17 : decode b_Q_word 17 = .ok (.iaload, 1) := by decide +kernel
theorem d_Q_word_18 : decode b_Q_word 18 = .ok (.goto 4, 3) := by decide +kernel
theorem d_Q_word_21 : decode b_Q_word 21 = .ok (.iconst 0, 1) := by decide +kernel
theorem d_Q_word_22 : decode b_Q_word 22 = .ok (.ireturn, 1) := by decide +kernel
theorem d_Q_peek_0 : decode b_Q_peek 0 = .ok (.iload_n 1, 1) := by decide +kernel
theorem d_Q_peek_1 : decode b_Q_peek 1 = .ok (.invokestatic 40, 3) := by decide +kernel
theorem d_Q_peek_4 : decode b_Q_peek 4 = .ok (.ifCond .eq 10, 3) := by decide +kernel
theorem d_Q_peek_7 : decode b_Q_peek 7 = .ok (.iload_n 2, 1) := by decide +kernel
theorem d_Q_peek_8 : decode b_Q_peek 8 = .ok (.invokestatic 44, 3) := by decide +kernel
theorem d_Q_peek_11 : decode b_Q_peek 11 = .ok (.ifCond .ne 5, 3) := by decide +kernel
theorem d_Q_peek_14 : decode b_Q_peek 14 = .ok (.iconst 0, 1) := by decide +kernel
theorem d_Q_peek_15 : decode b_Q_peek 15 = .ok (.ireturn, 1) := by decide +kernel
theorem d_Q_peek_16 : decode b_Q_peek 16 = .ok (.aload_n 0, 1) := by decide +kernel
theorem d_Q_peek_17 : decode b_Q_peek 17 = .ok (.getfield 19, 3) := by decide +kernel
theorem d_Q_peek_20 : decode b_Q_peek 20 = .ok (.getfield 47, 3) := by decide +kernel
theorem d_Q_peek_23 : decode b_Q_peek 23 = .ok (.iload_n 1, 1) := by decide +kernel
theorem d_Q_peek_24 : decode b_Q_peek 24 = .ok (.iload_n 2, 1) := by decide +kernel
theorem d_Q_peek_25 : decode b_Q_peek 25 = .ok (.invokestatic 50, 3) := by decide +kernel
theorem d_Q_peek_28 : decode b_Q_peek 28 = .ok (.iaload, 1) := by decide +kernel
theorem d_Q_peek_29 : decode b_Q_peek 29 = .ok (.ireturn, 1) := by decide +kernel
theorem d_Q_count_0 : decode b_Q_count 0 = .ok (.iload_n 1, 1) := by decide +kernel
theorem d_Q_count_1 : decode b_Q_count 1 = .ok (.ifCond .lt 18, 3) := by decide +kernel
theorem d_Q_count_4 : decode b_Q_count 4 = .ok (.iload_n 1, 1) := by decide +kernel
theorem d_Q_count_5 : decode b_Q_count 5 = .ok (.bipush 6, 2) := by decide +kernel
theorem d_Q_count_7 : decode b_Q_count 7 = .ok (.if_icmp .gt 12, 3) := by decide +kernel
theorem d_Q_count_10 : decode b_Q_count 10 = .ok (.aload_n 0, 1) := by decide +kernel
theorem d_Q_count_11 : decode b_Q_count 11 = .ok (.getfield 13, 3) := by decide +kernel
theorem d_Q_count_14 : decode b_Q_count 14 = .ok (.iload_n 1, 1) := by decide +kernel
theorem d_Q_count_15 : decode b_Q_count 15 = .ok (.iaload, 1) := by decide +kernel
theorem d_Q_count_16 : decode b_Q_count 16 = .ok (.goto 4, 3) := by decide +kernel
theorem d_Q_count_19 : decode b_Q_count 19 = .ok (.iconst (-1), 1) := by decide +kernel
theorem d_Q_count_20 : decode b_Q_count 20 = .ok (.ireturn, 1) := by decide +kernel
theorem d_Q_mark_0 : decode b_Q_mark 0 = .ok (.aload_n 0, 1) := by decide +kernel
theorem d_Q_mark_1 : decode b_Q_mark 1 = .ok (.getfield 23, 3) := by decide +kernel
theorem d_Q_mark_4 : decode b_Q_mark 4 = .ok (.aload_n 0, 1) := by decide +kernel
theorem d_Q_mark_5 : decode b_Q_mark 5 = .ok (.getfield 19, 3) := by decide +kernel
theorem d_Q_mark_8 : decode b_Q_mark 8 = .ok (.invokevirtual 108, 3) := by decide +kernel
theorem d_Q_mark_11 : decode b_Q_mark 11 = .ok (.aload_n 0, 1) := by decide +kernel
theorem d_Q_mark_12 : decode b_Q_mark 12 = .ok (.iconst 1, 1) := by decide +kernel
theorem d_Q_mark_13 : decode b_Q_mark 13 = .ok (.putfield 26, 3) := by decide +kernel
theorem d_Q_mark_16 : decode b_Q_mark 16 = .ok (.return_, 1) := by decide +kernel
theorem d_Q_back_0 : decode b_Q_back 0 = .ok (.aload_n 0, 1) := by decide +kernel
theorem d_Q_back_1 : decode b_Q_back 1 = .ok (.getfield 26, 3) := by decide +kernel
theorem d_Q_back_4 : decode b_Q_back 4 = .ok (.ifCond .ne 5, 3) := by decide +kernel
theorem d_Q_back_7 : decode b_Q_back 7 = .ok (.iconst 0, 1) := by decide +kernel
theorem d_Q_back_8 : decode b_Q_back 8 = .ok (.ireturn, 1) := by decide +kernel
theorem d_Q_back_9 : decode b_Q_back 9 = .ok (.aload_n 0, 1) := by decide +kernel
theorem d_Q_back_10 : decode b_Q_back 10 = .ok (.getfield 19, 3) := by decide +kernel
theorem d_Q_back_13 : decode b_Q_back 13 = .ok (.aload_n 0, 1) := by decide +kernel
theorem d_Q_back_14 : decode b_Q_back 14 = .ok (.getfield 23, 3) := by decide +kernel
theorem d_Q_back_17 : decode b_Q_back 17 = .ok (.invokevirtual 108, 3) := by decide +kernel
theorem d_Q_back_20 : decode b_Q_back 20 = .ok (.iconst 1, 1) := by decide +kernel
theorem d_Q_back_21 : decode b_Q_back 21 = .ok (.ireturn, 1) := by decide +kernel
theorem d_Q_step_0 : decode b_Q_step 0 = .ok (.aload_n 0, 1) := by decide +kernel
theorem d_Q_step_1 : decode b_Q_step 1 = .ok (.getfield 13, 3) := by decide +kernel
theorem d_Q_step_4 : decode b_Q_step 4 = .ok (.iconst 0, 1) := by decide +kernel
theorem d_Q_step_5 : decode b_Q_step 5 = .ok (.dup2, 1) := by decide +kernel
theorem d_Q_step_6 : decode b_Q_step 6 = .ok (.iaload, 1) := by decide +kernel
theorem d_Q_step_7 : decode b_Q_step 7 = .ok (.iconst 1, 1) := by decide +kernel
theorem d_Q_step_8 : decode b_Q_step 8 = .ok (.iadd, 1) := by decide +kernel
theorem d_Q_step_9 : decode b_Q_step 9 = .ok (.iastore, 1) := by decide +kernel
theorem d_Q_step_10 : decode b_Q_step 10 = .ok (.aload_n 0, 1) := by decide +kernel
theorem d_Q_step_11 : decode b_Q_step 11 = .ok (.getfield 19, 3) := by decide +kernel
theorem d_Q_step_14 : decode b_Q_step 14 = .ok (.getfield 75, 3) := by decide +kernel
theorem d_Q_step_17 : decode b_Q_step 17 = .ok (.iconst 1, 1) := by decide +kernel
theorem d_Q_step_18 : decode b_Q_step 18 = .ok (.if_icmp .ne 31, 3) := by decide +kernel
theorem d_Q_step_21 : decode b_Q_step 21 = .ok (.aload_n 0, 1) := by decide +kernel
theorem d_Q_step_22 : decode b_Q_step 22 = .ok (.getfield 19, 3) := by decide +kernel
theorem d_Q_step_25 : decode b_Q_step 25 = .ok (.getfield 65, 3) := by decide +kernel
theorem d_Q_step_28 : decode b_Q_step 28 = .ok (.getfield 99, 3) := by decide +kernel
theorem d_Q_step_31 : decode b_Q_step 31 = .ok (.iconst 1, 1) := by decide +kernel
theorem d_Q_step_32 : decode b_Q_step 32 = .ok (.if_icmp .ne 17, 3) := by decide +kernel
theorem d_Q_step_35 : decode b_Q_step 35 = .ok (.aload_n 0, 1) := by decide +kernel
theorem d_Q_step_36 : decode b_Q_step 36 = .ok (.getfield 19, 3) := by decide +kernel
theorem d_Q_step_39 : decode b_Q_step 39 = .ok (.iconst 0, 1) := by decide +kernel
theorem d_Q_step_40 : decode b_Q_step 40 = .ok (.putfield 75, 3) := by decide +kernel
theorem d_Q_step_43 : decode b_Q_step 43 = .ok (.aload_n 0, 1) := by decide +kernel
theorem d_Q_step_44 : decode b_Q_step 44 = .ok (.iconst 1, 1) := by decide +kernel
theorem d_Q_step_45 : decode b_Q_step 45 = .ok (.invokevirtual 112, 3) := by decide +kernel
theorem d_Q_step_48 : decode b_Q_step 48 = .ok (.ireturn, 1) := by decide +kernel
theorem d_Q_step_49 : decode b_Q_step 49 = .ok (.aload_n 0, 1) := by decide +kernel
theorem d_Q_step_50 : decode b_Q_step 50 = .ok (.getfield 19, 3) := by decide +kernel
theorem d_Q_step_53 : decode b_Q_step 53 = .ok (.getfield 65, 3) := by decide +kernel
theorem d_Q_step_56 : decode b_Q_step 56 = .ok (.getfield 96, 3) := by decide +kernel
theorem d_Q_step_59 : decode b_Q_step 59 = .ok (.iconst 1, 1) := by decide +kernel
theorem d_Q_step_60 : decode b_Q_step 60 = .ok (.if_icmp .ne 27, 3) := by decide +kernel
theorem d_Q_step_63 : decode b_Q_step 63 = .ok (.aload_n 0, 1) := by decide +kernel
theorem d_Q_step_64 : decode b_Q_step 64 = .ok (.getfield 13, 3) := by decide +kernel
theorem d_Q_step_67 : decode b_Q_step 67 = .ok (.bipush 6, 2) := by decide +kernel
theorem d_Q_step_69 : decode b_Q_step 69 = .ok (.dup2, 1) := by decide +kernel
theorem d_Q_step_70 : decode b_Q_step 70 = .ok (.iaload, 1) := by decide +kernel
theorem d_Q_step_71 : decode b_Q_step 71 = .ok (.iconst 1, 1) := by decide +kernel
theorem d_Q_step_72 : decode b_Q_step 72 = .ok (.iadd, 1) := by decide +kernel
theorem d_Q_step_73 : decode b_Q_step 73 = .ok (.iastore, 1) := by decide +kernel
theorem d_Q_step_74 : decode b_Q_step 74 = .ok (.aload_n 0, 1) := by decide +kernel
theorem d_Q_step_75 : decode b_Q_step 75 = .ok (.getfield 19, 3) := by decide +kernel
theorem d_Q_step_78 : decode b_Q_step 78 = .ok (.getfield 65, 3) := by decide +kernel
theorem d_Q_step_81 : decode b_Q_step 81 = .ok (.iconst 0, 1) := by decide +kernel
theorem d_Q_step_82 : decode b_Q_step 82 = .ok (.invokevirtual 115, 3) := by decide +kernel
theorem d_Q_step_85 : decode b_Q_step 85 = .ok (.iconst 0, 1) := by decide +kernel
theorem d_Q_step_86 : decode b_Q_step 86 = .ok (.ireturn, 1) := by decide +kernel
theorem d_Q_step_87 : decode b_Q_step 87 = .ok (.aload_n 0, 1) := by decide +kernel
theorem d_Q_step_88 : decode b_Q_step 88 = .ok (.getfield 9, 3) := by decide +kernel
theorem d_Q_step_91 : decode b_Q_step 91 = .ok (.aload_n 0, 1) := by decide +kernel
theorem d_Q_step_92 : decode b_Q_step 92 = .ok (.getfield 19, 3) := by decide +kernel
theorem d_Q_step_95 : decode b_Q_step 95 = .ok (.getfield 65, 3) := by decide +kernel
theorem d_Q_step_98 : decode b_Q_step 98 = .ok (.getfield 83, 3) := by decide +kernel
theorem d_Q_step_101 : decode b_Q_step 101 = .ok (.iaload, 1) := by decide +kernel
theorem d_Q_step_102 : decode b_Q_step 102 = .ok (.istore_n 1, 1) := by decide +kernel
theorem d_Q_step_103 : decode b_Q_step 103 = .ok (.aload_n 0, 1) := by decide +kernel
theorem d_Q_step_104 : decode b_Q_step 104 = .ok (.getfield 19, 3) := by decide +kernel
theorem d_Q_step_107 : decode b_Q_step 107 = .ok (.iload_n 1, 1) := by decide +kernel
theorem d_Q_step_108 : decode b_Q_step 108 = .ok (.invokevirtual 119, 3) := by decide +kernel
theorem d_Q_step_111 : decode b_Q_step 111 = .ok (.istore_n 2, 1) := by decide +kernel
theorem d_Q_step_112 : decode b_Q_step 112 = .ok (.iload_n 2, 1) := by decide +kernel
theorem d_Q_step_113 : decode b_Q_step 113 = .ok (.ifCond .eq 9, 3) := by decide +kernel
theorem d_Q_step_116 : decode b_Q_step 116 = .ok (.aload_n 0, 1) := by decide +kernel
theorem d_Q_step_117 : decode b_Q_step 117 = .ok (.iload_n 2, 1) := by decide +kernel
theorem d_Q_step_118 : decode b_Q_step 118 = .ok (.invokevirtual 112, 3) := by decide +kernel
theorem d_Q_step_121 : decode b_Q_step 121 = .ok (.ireturn, 1) := by decide +kernel
theorem d_Q_step_122 : decode b_Q_step 122 = .ok (.aload_n 0, 1) := by decide +kernel
theorem d_Q_step_123 : decode b_Q_step 123 = .ok (.getfield 19, 3) := by decide +kernel
theorem d_Q_step_126 : decode b_Q_step 126 = .ok (.iload_n 1, 1) := by decide +kernel
theorem d_Q_step_127 : decode b_Q_step 127 = .ok (.invokevirtual 122, 3) := by decide +kernel
theorem d_Q_step_130 : decode b_Q_step 130 = .ok (.iconst 0, 1) := by decide +kernel
theorem d_Q_step_131 : decode b_Q_step 131 = .ok (.ireturn, 1) := by decide +kernel
theorem d_Q_trap_0 : decode b_Q_trap 0 = .ok (.aload_n 0, 1) := by decide +kernel
theorem d_Q_trap_1 : decode b_Q_trap 1 = .ok (.getfield 13, 3) := by decide +kernel
theorem d_Q_trap_4 : decode b_Q_trap 4 = .ok (.iload_n 1, 1) := by decide +kernel
theorem d_Q_trap_5 : decode b_Q_trap 5 = .ok (.dup2, 1) := by decide +kernel
theorem d_Q_trap_6 : decode b_Q_trap 6 = .ok (.iaload, 1) := by decide +kernel
theorem d_Q_trap_7 : decode b_Q_trap 7 = .ok (.iconst 1, 1) := by decide +kernel
theorem d_Q_trap_8 : decode b_Q_trap 8 = .ok (.iadd, 1) := by decide +kernel
theorem d_Q_trap_9 : decode b_Q_trap 9 = .ok (.iastore, 1) := by decide +kernel
theorem d_Q_trap_10 : decode b_Q_trap 10 = .ok (.aload_n 0, 1) := by decide +kernel
theorem d_Q_trap_11 : decode b_Q_trap 11 = .ok (.getfield 19, 3) := by decide +kernel
theorem d_Q_trap_14 : decode b_Q_trap 14 = .ok (.iload_n 1, 1) := by decide +kernel
theorem d_Q_trap_15 : decode b_Q_trap 15 = .ok (.invokevirtual 126, 3) := by decide +kernel
theorem d_Q_trap_18 : decode b_Q_trap 18 = .ok (.iload_n 1, 1) := by decide +kernel
theorem d_Q_trap_19 : decode b_Q_trap 19 = .ok (.ireturn, 1) := by decide +kernel
theorem d_Q_isSpace_0 : decode b_Q_isSpace 0 = .ok (.iload_n 0, 1) := by decide +kernel
theorem d_Q_isSpace_1 : decode b_Q_isSpace 1 = .ok (.ifCond .lt 12, 3) := by decide +kernel
theorem d_Q_isSpace_4 : decode b_Q_isSpace 4 = .ok (.iload_n 0, 1) := by decide +kernel
theorem d_Q_isSpace_5 : decode b_Q_isSpace 5 = .ok (.iconst 4, 1) := by decide +kernel
theorem d_Q_isSpace_6 : decode b_Q_isSpace 6 = .ok (.if_icmp .ge 7, 3) := by decide +kernel
theorem d_Q_isSpace_9 : decode b_Q_isSpace 9 = .ok (.iconst 1, 1) := by decide +kernel
theorem d_Q_isSpace_10 : decode b_Q_isSpace 10 = .ok (.goto 4, 3) := by decide +kernel
theorem d_Q_isSpace_13 : decode b_Q_isSpace 13 = .ok (.iconst 0, 1) := by decide +kernel
theorem d_Q_isSpace_14 : decode b_Q_isSpace 14 = .ok (.ireturn, 1) := by decide +kernel
theorem d_Q_isPlace_0 : decode b_Q_isPlace 0 = .ok (.iload_n 0, 1) := by decide +kernel
theorem d_Q_isPlace_1 : decode b_Q_isPlace 1 = .ok (.invokestatic 40, 3) := by decide +kernel
theorem d_Q_isPlace_4 : decode b_Q_isPlace 4 = .ok (.ifCond .eq 17, 3) := by decide +kernel
theorem d_Q_isPlace_7 : decode b_Q_isPlace 7 = .ok (.iload_n 1, 1) := by decide +kernel
theorem d_Q_isPlace_8 : decode b_Q_isPlace 8 = .ok (.ifCond .lt 13, 3) := by decide +kernel
theorem d_Q_isPlace_11 : decode b_Q_isPlace 11 = .ok (.iload_n 1, 1) := by decide +kernel
theorem d_Q_isPlace_12 : decode b_Q_isPlace 12 = .ok (.bipush 32, 2) := by decide +kernel
theorem d_Q_isPlace_14 : decode b_Q_isPlace 14 = .ok (.if_icmp .ge 7, 3) := by decide +kernel
theorem d_Q_isPlace_17 : decode b_Q_isPlace 17 = .ok (.iconst 1, 1) := by decide +kernel
theorem d_Q_isPlace_18 : decode b_Q_isPlace 18 = .ok (.goto 4, 3) := by decide +kernel
theorem d_Q_isPlace_21 : decode b_Q_isPlace 21 = .ok (.iconst 0, 1) := by decide +kernel
theorem d_Q_isPlace_22 : decode b_Q_isPlace 22 = .ok (.ireturn, 1) := by decide +kernel
theorem d_Q_isDataOffset_0 : decode b_Q_isDataOffset 0 = .ok (.iload_n 0, 1) := by decide +kernel
theorem d_Q_isDataOffset_1 : decode b_Q_isDataOffset 1 = .ok (.ifCond .lt 13, 3) := by decide +kernel
theorem d_Q_isDataOffset_4 : decode b_Q_isDataOffset 4 = .ok (.iload_n 0, 1) := by decide +kernel
theorem d_Q_isDataOffset_5 : decode b_Q_isDataOffset 5 = .ok (.bipush 16, 2) := by decide +kernel
theorem d_Q_isDataOffset_7 : decode b_Q_isDataOffset 7 = .ok (.if_icmp .ge 7, 3) := by decide +kernel
theorem d_Q_isDataOffset_10 : decode b_Q_isDataOffset 10 = .ok (.iconst 1, 1) := by decide +kernel
theorem d_Q_isDataOffset_11 : decode b_Q_isDataOffset 11 = .ok (.goto 4, 3) := by decide +kernel
theorem d_Q_isDataOffset_14 : decode b_Q_isDataOffset 14 = .ok (.iconst 0, 1) := by decide +kernel
theorem d_Q_isDataOffset_15 : decode b_Q_isDataOffset 15 = .ok (.ireturn, 1) := by decide +kernel
theorem d_Q_isRegister_0 : decode b_Q_isRegister 0 = .ok (.iload_n 0, 1) := by decide +kernel
theorem d_Q_isRegister_1 : decode b_Q_isRegister 1 = .ok (.ifCond .lt 13, 3) := by decide +kernel
theorem d_Q_isRegister_4 : decode b_Q_isRegister 4 = .ok (.iload_n 0, 1) := by decide +kernel
theorem d_Q_isRegister_5 : decode b_Q_isRegister 5 = .ok (.bipush 8, 2) := by decide +kernel
theorem d_Q_isRegister_7 : decode b_Q_isRegister 7 = .ok (.if_icmp .ge 7, 3) := by decide +kernel
theorem d_Q_isRegister_10 : decode b_Q_isRegister 10 = .ok (.iconst 1, 1) := by decide +kernel
theorem d_Q_isRegister_11 : decode b_Q_isRegister 11 = .ok (.goto 4, 3) := by decide +kernel
theorem d_Q_isRegister_14 : decode b_Q_isRegister 14 = .ok (.iconst 0, 1) := by decide +kernel
theorem d_Q_isRegister_15 : decode b_Q_isRegister 15 = .ok (.ireturn, 1) := by decide +kernel
theorem d_Q_isSpaceRegister_0 : decode b_Q_isSpaceRegister 0 = .ok (.iload_n 0, 1) := by decide +kernel
theorem d_Q_isSpaceRegister_1 : decode b_Q_isSpaceRegister 1 = .ok (.ifCond .lt 12, 3) := by decide +kernel
theorem d_Q_isSpaceRegister_4 : decode b_Q_isSpaceRegister 4 = .ok (.iload_n 0, 1) := by decide +kernel
theorem d_Q_isSpaceRegister_5 : decode b_Q_isSpaceRegister 5 = .ok (.iconst 4, 1) := by decide +kernel
theorem d_Q_isSpaceRegister_6 : decode b_Q_isSpaceRegister 6 = .ok (.if_icmp .ge 7, 3) := by decide +kernel
theorem d_Q_isSpaceRegister_9 : decode b_Q_isSpaceRegister 9 = .ok (.iconst 1, 1) := by decide +kernel
theorem d_Q_isSpaceRegister_10 : decode b_Q_isSpaceRegister 10 = .ok (.goto 4, 3) := by decide +kernel
theorem d_Q_isSpaceRegister_13 : decode b_Q_isSpaceRegister 13 = .ok (.iconst 0, 1) := by decide +kernel
theorem d_Q_isSpaceRegister_14 : decode b_Q_isSpaceRegister 14 = .ok (.ireturn, 1) := by decide +kernel
theorem d_Q_dataIndex_0 : decode b_Q_dataIndex 0 = .ok (.iload_n 0, 1) := by decide +kernel
theorem d_Q_dataIndex_1 : decode b_Q_dataIndex 1 = .ok (.bipush 16, 2) := by decide +kernel
theorem d_Q_dataIndex_3 : decode b_Q_dataIndex 3 = .ok (.imul, 1) := by decide +kernel
theorem d_Q_dataIndex_4 : decode b_Q_dataIndex 4 = .ok (.iload_n 1, 1) := by decide +kernel
theorem d_Q_dataIndex_5 : decode b_Q_dataIndex 5 = .ok (.iadd, 1) := by decide +kernel
theorem d_Q_dataIndex_6 : decode b_Q_dataIndex 6 = .ok (.ireturn, 1) := by decide +kernel
theorem d_Co_holds_0 : decode b_Co_holds 0 = .ok (.iload_n 0, 1) := by decide +kernel
theorem d_Co_holds_1 : decode b_Co_holds 1 = .ok (.tableswitch 129 1 7 #[43, 54, 65, 76, 94, 112, 127], 43) := by decide +kernel
theorem d_Co_holds_44 : decode b_Co_holds 44 = .ok (.iload_n 1, 1) := by decide +kernel
theorem d_Co_holds_45 : decode b_Co_holds 45 = .ok (.iload_n 2, 1) := by decide +kernel
theorem d_Co_holds_46 : decode b_Co_holds 46 = .ok (.if_icmp .ne 7, 3) := by decide +kernel
theorem d_Co_holds_49 : decode b_Co_holds 49 = .ok (.iconst 1, 1) := by decide +kernel
theorem d_Co_holds_50 : decode b_Co_holds 50 = .ok (.goto 4, 3) := by decide +kernel
theorem d_Co_holds_53 : decode b_Co_holds 53 = .ok (.iconst 0, 1) := by decide +kernel
theorem d_Co_holds_54 : decode b_Co_holds 54 = .ok (.ireturn, 1) := by decide +kernel
theorem d_Co_holds_55 : decode b_Co_holds 55 = .ok (.iload_n 1, 1) := by decide +kernel
theorem d_Co_holds_56 : decode b_Co_holds 56 = .ok (.iload_n 2, 1) := by decide +kernel
theorem d_Co_holds_57 : decode b_Co_holds 57 = .ok (.if_icmp .ge 7, 3) := by decide +kernel
theorem d_Co_holds_60 : decode b_Co_holds 60 = .ok (.iconst 1, 1) := by decide +kernel
theorem d_Co_holds_61 : decode b_Co_holds 61 = .ok (.goto 4, 3) := by decide +kernel
theorem d_Co_holds_64 : decode b_Co_holds 64 = .ok (.iconst 0, 1) := by decide +kernel
theorem d_Co_holds_65 : decode b_Co_holds 65 = .ok (.ireturn, 1) := by decide +kernel
theorem d_Co_holds_66 : decode b_Co_holds 66 = .ok (.iload_n 1, 1) := by decide +kernel
theorem d_Co_holds_67 : decode b_Co_holds 67 = .ok (.iload_n 2, 1) := by decide +kernel
theorem d_Co_holds_68 : decode b_Co_holds 68 = .ok (.if_icmp .gt 7, 3) := by decide +kernel
theorem d_Co_holds_71 : decode b_Co_holds 71 = .ok (.iconst 1, 1) := by decide +kernel
theorem d_Co_holds_72 : decode b_Co_holds 72 = .ok (.goto 4, 3) := by decide +kernel
theorem d_Co_holds_75 : decode b_Co_holds 75 = .ok (.iconst 0, 1) := by decide +kernel
theorem d_Co_holds_76 : decode b_Co_holds 76 = .ok (.ireturn, 1) := by decide +kernel
theorem d_Co_holds_77 : decode b_Co_holds 77 = .ok (.iload_n 1, 1) := by decide +kernel
theorem d_Co_holds_78 : decode b_Co_holds 78 = .ok (.invokestatic 7, 3) := by decide +kernel
theorem d_Co_holds_81 : decode b_Co_holds 81 = .ok (.iload_n 2, 1) := by decide +kernel
theorem d_Co_holds_82 : decode b_Co_holds 82 = .ok (.invokestatic 7, 3) := by decide +kernel
theorem d_Co_holds_85 : decode b_Co_holds 85 = .ok (.lcmp, 1) := by decide +kernel
theorem d_Co_holds_86 : decode b_Co_holds 86 = .ok (.ifCond .ge 7, 3) := by decide +kernel
theorem d_Co_holds_89 : decode b_Co_holds 89 = .ok (.iconst 1, 1) := by decide +kernel
theorem d_Co_holds_90 : decode b_Co_holds 90 = .ok (.goto 4, 3) := by decide +kernel
theorem d_Co_holds_93 : decode b_Co_holds 93 = .ok (.iconst 0, 1) := by decide +kernel
theorem d_Co_holds_94 : decode b_Co_holds 94 = .ok (.ireturn, 1) := by decide +kernel
theorem d_Co_holds_95 : decode b_Co_holds 95 = .ok (.iload_n 1, 1) := by decide +kernel
theorem d_Co_holds_96 : decode b_Co_holds 96 = .ok (.invokestatic 7, 3) := by decide +kernel
theorem d_Co_holds_99 : decode b_Co_holds 99 = .ok (.iload_n 2, 1) := by decide +kernel
theorem d_Co_holds_100 : decode b_Co_holds 100 = .ok (.invokestatic 7, 3) := by decide +kernel
theorem d_Co_holds_103 : decode b_Co_holds 103 = .ok (.lcmp, 1) := by decide +kernel
theorem d_Co_holds_104 : decode b_Co_holds 104 = .ok (.ifCond .gt 7, 3) := by decide +kernel
theorem d_Co_holds_107 : decode b_Co_holds 107 = .ok (.iconst 1, 1) := by decide +kernel
theorem d_Co_holds_108 : decode b_Co_holds 108 = .ok (.goto 4, 3) := by decide +kernel
theorem d_Co_holds_111 : decode b_Co_holds 111 = .ok (.iconst 0, 1) := by decide +kernel
theorem d_Co_holds_112 : decode b_Co_holds 112 = .ok (.ireturn, 1) := by decide +kernel
theorem d_Co_holds_113 : decode b_Co_holds 113 = .ok (.iload_n 1, 1) := by decide +kernel
theorem d_Co_holds_114 : decode b_Co_holds 114 = .ok (.iload_n 2, 1) := by decide +kernel
theorem d_Co_holds_115 : decode b_Co_holds 115 = .ok (.isub, 1) := by decide +kernel
theorem d_Co_holds_116 : decode b_Co_holds 116 = .ok (.iconst 1, 1) := by decide +kernel
theorem d_Co_holds_117 : decode b_Co_holds 117 = .ok (.iand, 1) := by decide +kernel
theorem d_Co_holds_118 : decode b_Co_holds 118 = .ok (.iconst 1, 1) := by decide +kernel
theorem d_Co_holds_119 : decode b_Co_holds 119 = .ok (.if_icmp .ne 7, 3) := by decide +kernel
theorem d_Co_holds_122 : decode b_Co_holds 122 = .ok (.iconst 1, 1) := by decide +kernel
theorem d_Co_holds_123 : decode b_Co_holds 123 = .ok (.goto 4, 3) := by decide +kernel
theorem d_Co_holds_126 : decode b_Co_holds 126 = .ok (.iconst 0, 1) := by decide +kernel
theorem d_Co_holds_127 : decode b_Co_holds 127 = .ok (.ireturn, 1) := by decide +kernel
theorem d_Co_holds_128 : decode b_Co_holds 128 = .ok (.iconst 1, 1) := by decide +kernel
theorem d_Co_holds_129 : decode b_Co_holds 129 = .ok (.ireturn, 1) := by decide +kernel
theorem d_Co_holds_130 : decode b_Co_holds 130 = .ok (.iconst 0, 1) := by decide +kernel
theorem d_Co_holds_131 : decode b_Co_holds 131 = .ok (.ireturn, 1) := by decide +kernel
theorem d_Co_unsigned_0 : decode b_Co_unsigned 0 = .ok (.iload_n 0, 1) := by decide +kernel
theorem d_Co_unsigned_1 : decode b_Co_unsigned 1 = .ok (.i2l, 1) := by decide +kernel
theorem d_Co_unsigned_2 : decode b_Co_unsigned 2 = .ok (.ldc2_w 13, 3) := by decide +kernel
theorem d_Co_unsigned_5 : decode b_Co_unsigned 5 = .ok (.land, 1) := by decide +kernel
theorem d_Co_unsigned_6 : decode b_Co_unsigned 6 = .ok (.lreturn, 1) := by decide +kernel
theorem d_F_init_0 : decode b_F_init 0 = .ok (.aload_n 0, 1) := by decide +kernel
theorem d_F_init_1 : decode b_F_init 1 = .ok (.invokespecial 1, 3) := by decide +kernel
theorem d_F_init_4 : decode b_F_init 4 = .ok (.aload_n 0, 1) := by decide +kernel
theorem d_F_init_5 : decode b_F_init 5 = .ok (.iconst 0, 1) := by decide +kernel
theorem d_F_init_6 : decode b_F_init 6 = .ok (.putfield 7, 3) := by decide +kernel
theorem d_F_init_9 : decode b_F_init 9 = .ok (.aload_n 0, 1) := by decide +kernel
theorem d_F_init_10 : decode b_F_init 10 = .ok (.iconst 0, 1) := by decide +kernel
theorem d_F_init_11 : decode b_F_init 11 = .ok (.putfield 13, 3) := by decide +kernel
theorem d_F_init_14 : decode b_F_init 14 = .ok (.aload_n 0, 1) := by decide +kernel
theorem d_F_init_15 : decode b_F_init 15 = .ok (.iconst 0, 1) := by decide +kernel
theorem d_F_init_16 : decode b_F_init 16 = .ok (.putfield 16, 3) := by decide +kernel
theorem d_F_init_19 : decode b_F_init 19 = .ok (.aload_n 0, 1) := by decide +kernel
theorem d_F_init_20 : decode b_F_init 20 = .ok (.iconst 0, 1) := by decide +kernel
theorem d_F_init_21 : decode b_F_init 21 = .ok (.putfield 19, 3) := by decide +kernel
theorem d_F_init_24 : decode b_F_init 24 = .ok (.return_, 1) := by decide +kernel
theorem d_F_startAt_0 : decode b_F_startAt 0 = .ok (.aload_n 0, 1) := by decide +kernel
theorem d_F_startAt_1 : decode b_F_startAt 1 = .ok (.iload_n 1, 1) := by decide +kernel
theorem d_F_startAt_2 : decode b_F_startAt 2 = .ok (.putfield 7, 3) := by decide +kernel
theorem d_F_startAt_5 : decode b_F_startAt 5 = .ok (.aload_n 0, 1) := by decide +kernel
theorem d_F_startAt_6 : decode b_F_startAt 6 = .ok (.iload_n 1, 1) := by decide +kernel
theorem d_F_startAt_7 : decode b_F_startAt 7 = .ok (.invokestatic 22, 3) := by decide +kernel
theorem d_F_startAt_10 : decode b_F_startAt 10 = .ok (.putfield 13, 3) := by decide +kernel
theorem d_F_startAt_13 : decode b_F_startAt 13 = .ok (.aload_n 0, 1) := by decide +kernel
theorem d_F_startAt_14 : decode b_F_startAt 14 = .ok (.iconst 0, 1) := by decide +kernel
theorem d_F_startAt_15 : decode b_F_startAt 15 = .ok (.putfield 16, 3) := by decide +kernel
theorem d_F_startAt_18 : decode b_F_startAt 18 = .ok (.aload_n 0, 1) := by decide +kernel
theorem d_F_startAt_19 : decode b_F_startAt 19 = .ok (.iload_n 2, 1) := by decide +kernel
theorem d_F_startAt_20 : decode b_F_startAt 20 = .ok (.putfield 19, 3) := by decide +kernel
theorem d_F_startAt_23 : decode b_F_startAt 23 = .ok (.return_, 1) := by decide +kernel
theorem d_F_moveOn_0 : decode b_F_moveOn 0 = .ok (.aload_n 0, 1) := by decide +kernel
theorem d_F_moveOn_1 : decode b_F_moveOn 1 = .ok (.aload_n 0, 1) := by decide +kernel
theorem d_F_moveOn_2 : decode b_F_moveOn 2 = .ok (.getfield 13, 3) := by decide +kernel
theorem d_F_moveOn_5 : decode b_F_moveOn 5 = .ok (.invokestatic 22, 3) := by decide +kernel
theorem d_F_moveOn_8 : decode b_F_moveOn 8 = .ok (.iload_n 1, 1) := by decide +kernel
theorem d_F_moveOn_9 : decode b_F_moveOn 9 = .ok (.invokevirtual 28, 3) := by decide +kernel
theorem d_F_moveOn_12 : decode b_F_moveOn 12 = .ok (.return_, 1) := by decide +kernel
theorem d_F_moveOnTo_0 : decode b_F_moveOnTo 0 = .ok (.aload_n 0, 1) := by decide +kernel
theorem d_F_moveOnTo_1 : decode b_F_moveOnTo 1 = .ok (.aload_n 0, 1) := by decide +kernel
theorem d_F_moveOnTo_2 : decode b_F_moveOnTo 2 = .ok (.getfield 13, 3) := by decide +kernel
theorem d_F_moveOnTo_5 : decode b_F_moveOnTo 5 = .ok (.putfield 7, 3) := by decide +kernel
theorem d_F_moveOnTo_8 : decode b_F_moveOnTo 8 = .ok (.aload_n 0, 1) := by decide +kernel
theorem d_F_moveOnTo_9 : decode b_F_moveOnTo 9 = .ok (.iload_n 1, 1) := by decide +kernel
theorem d_F_moveOnTo_10 : decode b_F_moveOnTo 10 = .ok (.putfield 13, 3) := by decide +kernel
theorem d_F_moveOnTo_13 : decode b_F_moveOnTo 13 = .ok (.aload_n 0, 1) := by decide +kernel
theorem d_F_moveOnTo_14 : decode b_F_moveOnTo 14 = .ok (.iload_n 2, 1) := by decide +kernel
theorem d_F_moveOnTo_15 : decode b_F_moveOnTo 15 = .ok (.ifCond .eq 7, 3) := by decide +kernel
theorem d_F_moveOnTo_18 : decode b_F_moveOnTo 18 = .ok (.iconst 1, 1) := by decide +kernel
theorem d_F_moveOnTo_19 : decode b_F_moveOnTo 19 = .ok (.goto 4, 3) := by decide +kernel
theorem d_F_moveOnTo_22 : decode b_F_moveOnTo 22 = .ok (.iconst 0, 1) := by decide +kernel
theorem d_F_moveOnTo_23 : decode b_F_moveOnTo 23 = .ok (.putfield 16, 3) := by decide +kernel
theorem d_F_moveOnTo_26 : decode b_F_moveOnTo 26 = .ok (.return_, 1) := by decide +kernel
theorem d_F_become_0 : decode b_F_become 0 = .ok (.aload_n 0, 1) := by decide +kernel
theorem d_F_become_1 : decode b_F_become 1 = .ok (.aload_n 1, 1) := by decide +kernel
theorem d_F_become_2 : decode b_F_become 2 = .ok (.getfield 7, 3) := by decide +kernel
theorem d_F_become_5 : decode b_F_become 5 = .ok (.putfield 7, 3) := by decide +kernel
theorem d_F_become_8 : decode b_F_become 8 = .ok (.aload_n 0, 1) := by decide +kernel
theorem d_F_become_9 : decode b_F_become 9 = .ok (.aload_n 1, 1) := by decide +kernel
theorem d_F_become_10 : decode b_F_become 10 = .ok (.getfield 13, 3) := by decide +kernel
theorem d_F_become_13 : decode b_F_become 13 = .ok (.putfield 13, 3) := by decide +kernel
theorem d_F_become_16 : decode b_F_become 16 = .ok (.aload_n 0, 1) := by decide +kernel
theorem d_F_become_17 : decode b_F_become 17 = .ok (.aload_n 1, 1) := by decide +kernel
theorem d_F_become_18 : decode b_F_become 18 = .ok (.getfield 16, 3) := by decide +kernel
theorem d_F_become_21 : decode b_F_become 21 = .ok (.putfield 16, 3) := by decide +kernel
theorem d_F_become_24 : decode b_F_become 24 = .ok (.aload_n 0, 1) := by decide +kernel
theorem d_F_become_25 : decode b_F_become 25 = .ok (.aload_n 1, 1) := by decide +kernel
theorem d_F_become_26 : decode b_F_become 26 = .ok (.getfield 19, 3) := by decide +kernel
theorem d_F_become_29 : decode b_F_become 29 = .ok (.putfield 19, 3) := by decide +kernel
theorem d_F_become_32 : decode b_F_become 32 = .ok (.return_, 1) := by decide +kernel
theorem d_Pa_kind_0 : decode b_Pa_kind 0 = .ok (.iload_n 0, 1) := by decide +kernel
theorem d_Pa_kind_1 : decode b_Pa_kind 1 = .ok (.bipush 27, 2) := by decide +kernel
theorem d_Pa_kind_3 : decode b_Pa_kind 3 = .ok (.iushr, 1) := by decide +kernel
theorem d_Pa_kind_4 : decode b_Pa_kind 4 = .ok (.ireturn, 1) := by decide +kernel
theorem d_Pa_t_0 : decode b_Pa_t 0 = .ok (.iload_n 0, 1) := by decide +kernel
theorem d_Pa_t_1 : decode b_Pa_t 1 = .ok (.bipush 24, 2) := by decide +kernel
theorem d_Pa_t_3 : decode b_Pa_t 3 = .ok (.iushr, 1) := by decide +kernel
theorem d_Pa_t_4 : decode b_Pa_t 4 = .ok (.bipush 7, 2) := by decide +kernel
theorem d_Pa_t_6 : decode b_Pa_t 6 = .ok (.iand, 1) := by decide +kernel
theorem d_Pa_t_7 : decode b_Pa_t 7 = .ok (.ireturn, 1) := by decide +kernel
theorem d_Pa_a_0 : decode b_Pa_a 0 = .ok (.iload_n 0, 1) := by decide +kernel
theorem d_Pa_a_1 : decode b_Pa_a 1 = .ok (.bipush 21, 2) := by decide +kernel
theorem d_Pa_a_3 : decode b_Pa_a 3 = .ok (.iushr, 1) := by decide +kernel
theorem d_Pa_a_4 : decode b_Pa_a 4 = .ok (.bipush 7, 2) := by decide +kernel
theorem d_Pa_a_6 : decode b_Pa_a 6 = .ok (.iand, 1) := by decide +kernel
theorem d_Pa_a_7 : decode b_Pa_a 7 = .ok (.ireturn, 1) := by decide +kernel
theorem d_Pa_b_0 : decode b_Pa_b 0 = .ok (.iload_n 0, 1) := by decide +kernel
theorem d_Pa_b_1 : decode b_Pa_b 1 = .ok (.bipush 18, 2) := by decide +kernel
theorem d_Pa_b_3 : decode b_Pa_b 3 = .ok (.iushr, 1) := by decide +kernel
theorem d_Pa_b_4 : decode b_Pa_b 4 = .ok (.bipush 7, 2) := by decide +kernel
theorem d_Pa_b_6 : decode b_Pa_b 6 = .ok (.iand, 1) := by decide +kernel
theorem d_Pa_b_7 : decode b_Pa_b 7 = .ok (.ireturn, 1) := by decide +kernel
theorem d_Pa_spaceRegister_0 : decode b_Pa_spaceRegister 0 = .ok (.iload_n 0, 1) := by decide +kernel
theorem d_Pa_spaceRegister_1 : decode b_Pa_spaceRegister 1 = .ok (.bipush 18, 2) := by decide +kernel
theorem d_Pa_spaceRegister_3 : decode b_Pa_spaceRegister 3 = .ok (.iushr, 1) := by decide +kernel
theorem d_Pa_spaceRegister_4 : decode b_Pa_spaceRegister 4 = .ok (.iconst 3, 1) := by decide +kernel
theorem d_Pa_spaceRegister_5 : decode b_Pa_spaceRegister 5 = .ok (.iand, 1) := by decide +kernel
theorem d_Pa_spaceRegister_6 : decode b_Pa_spaceRegister 6 = .ok (.ireturn, 1) := by decide +kernel
theorem d_Pa_condition_0 : decode b_Pa_condition 0 = .ok (.iload_n 0, 1) := by decide +kernel
theorem d_Pa_condition_1 : decode b_Pa_condition 1 = .ok (.bipush 15, 2) := by decide +kernel
theorem d_Pa_condition_3 : decode b_Pa_condition 3 = .ok (.iushr, 1) := by decide +kernel
theorem d_Pa_condition_4 : decode b_Pa_condition 4 = .ok (.bipush 7, 2) := by decide +kernel
theorem d_Pa_condition_6 : decode b_Pa_condition 6 = .ok (.iand, 1) := by decide +kernel
theorem d_Pa_condition_7 : decode b_Pa_condition 7 = .ok (.ireturn, 1) := by decide +kernel
theorem d_Pa_n_0 : decode b_Pa_n 0 = .ok (.iload_n 0, 1) := by decide +kernel
theorem d_Pa_n_1 : decode b_Pa_n 1 = .ok (.bipush 14, 2) := by decide +kernel
theorem d_Pa_n_3 : decode b_Pa_n 3 = .ok (.iushr, 1) := by decide +kernel
theorem d_Pa_n_4 : decode b_Pa_n 4 = .ok (.iconst 1, 1) := by decide +kernel
theorem d_Pa_n_5 : decode b_Pa_n 5 = .ok (.iand, 1) := by decide +kernel
theorem d_Pa_n_6 : decode b_Pa_n 6 = .ok (.ireturn, 1) := by decide +kernel
theorem d_Pa_m_0 : decode b_Pa_m 0 = .ok (.iload_n 0, 1) := by decide +kernel
theorem d_Pa_m_1 : decode b_Pa_m 1 = .ok (.bipush 18, 2) := by decide +kernel
theorem d_Pa_m_3 : decode b_Pa_m 3 = .ok (.ishl, 1) := by decide +kernel
theorem d_Pa_m_4 : decode b_Pa_m 4 = .ok (.bipush 18, 2) := by decide +kernel
theorem d_Pa_m_6 : decode b_Pa_m 6 = .ok (.ishr, 1) := by decide +kernel
theorem d_Pa_m_7 : decode b_Pa_m 7 = .ok (.ireturn, 1) := by decide +kernel
theorem d_Pl_of_0 : decode b_Pl_of 0 = .ok (.iload_n 0, 1) := by decide +kernel
theorem d_Pl_of_1 : decode b_Pl_of 1 = .ok (.iconst 3, 1) := by decide +kernel
theorem d_Pl_of_2 : decode b_Pl_of 2 = .ok (.iand, 1) := by decide +kernel
theorem d_Pl_of_3 : decode b_Pl_of 3 = .ok (.bipush 32, 2) := by decide +kernel
theorem d_Pl_of_5 : decode b_Pl_of 5 = .ok (.imul, 1) := by decide +kernel
theorem d_Pl_of_6 : decode b_Pl_of 6 = .ok (.iload_n 1, 1) := by decide +kernel
theorem d_Pl_of_7 : decode b_Pl_of 7 = .ok (.bipush 31, 2) := by decide +kernel
theorem d_Pl_of_9 : decode b_Pl_of 9 = .ok (.iand, 1) := by decide +kernel
theorem d_Pl_of_10 : decode b_Pl_of 10 = .ok (.iadd, 1) := by decide +kernel
theorem d_Pl_of_11 : decode b_Pl_of 11 = .ok (.ireturn, 1) := by decide +kernel
theorem d_Pl_spaceOf_0 : decode b_Pl_spaceOf 0 = .ok (.iload_n 0, 1) := by decide +kernel
theorem d_Pl_spaceOf_1 : decode b_Pl_spaceOf 1 = .ok (.bipush 32, 2) := by decide +kernel
theorem d_Pl_spaceOf_3 : decode b_Pl_spaceOf 3 = .ok (.idiv, 1) := by decide +kernel
theorem d_Pl_spaceOf_4 : decode b_Pl_spaceOf 4 = .ok (.ireturn, 1) := by decide +kernel
theorem d_Pl_offsetOf_0 : decode b_Pl_offsetOf 0 = .ok (.iload_n 0, 1) := by decide +kernel
theorem d_Pl_offsetOf_1 : decode b_Pl_offsetOf 1 = .ok (.bipush 32, 2) := by decide +kernel
theorem d_Pl_offsetOf_3 : decode b_Pl_offsetOf 3 = .ok (.irem, 1) := by decide +kernel
theorem d_Pl_offsetOf_4 : decode b_Pl_offsetOf 4 = .ok (.ireturn, 1) := by decide +kernel
theorem d_Pl_behind_0 : decode b_Pl_behind 0 = .ok (.iload_n 0, 1) := by decide +kernel
theorem d_Pl_behind_1 : decode b_Pl_behind 1 = .ok (.invokestatic 9, 3) := by decide +kernel
theorem d_Pl_behind_4 : decode b_Pl_behind 4 = .ok (.iload_n 0, 1) := by decide +kernel
theorem d_Pl_behind_5 : decode b_Pl_behind 5 = .ok (.invokestatic 15, 3) := by decide +kernel
theorem d_Pl_behind_8 : decode b_Pl_behind 8 = .ok (.iconst 1, 1) := by decide +kernel
theorem d_Pl_behind_9 : decode b_Pl_behind 9 = .ok (.iadd, 1) := by decide +kernel
theorem d_Pl_behind_10 : decode b_Pl_behind 10 = .ok (.invokestatic 18, 3) := by decide +kernel
theorem d_Pl_behind_13 : decode b_Pl_behind 13 = .ok (.ireturn, 1) := by decide +kernel
