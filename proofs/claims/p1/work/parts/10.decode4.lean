theorem d_Server_charge_7 : decode b_Server_charge 7 = .ok (.iload_n 1, 1) := by decide +kernel
theorem d_Server_charge_8 : decode b_Server_charge 8 = .ok (.ifCond .lt 10, 3) := by decide +kernel
theorem d_Server_charge_11 : decode b_Server_charge 11 = .ok (.iload_n 1, 1) := by decide +kernel
theorem d_Server_charge_12 : decode b_Server_charge 12 = .ok (.sipush 999, 3) := by decide +kernel
theorem d_Server_charge_15 : decode b_Server_charge 15 = .ok (.if_icmp .le 5, 3) := by decide +kernel
theorem d_Server_charge_18 : decode b_Server_charge 18 = .ok (.iconst 0, 1) := by decide +kernel
theorem d_Server_charge_19 : decode b_Server_charge 19 = .ok (.ireturn, 1) := by decide +kernel
theorem d_Server_charge_20 : decode b_Server_charge 20 = .ok (.aload_n 0, 1) := by decide +kernel
theorem d_Server_charge_21 : decode b_Server_charge 21 = .ok (.getfield 29, 3) := by decide +kernel
theorem d_Server_charge_24 : decode b_Server_charge 24 = .ok (.iload_n 1, 1) := by decide +kernel
theorem d_Server_charge_25 : decode b_Server_charge 25 = .ok (.putfield 143, 3) := by decide +kernel
theorem d_Server_charge_28 : decode b_Server_charge 28 = .ok (.iconst 1, 1) := by decide +kernel
theorem d_Server_charge_29 : decode b_Server_charge 29 = .ok (.ireturn, 1) := by decide +kernel
theorem d_Server_start_0 : decode b_Server_start 0 = .ok (.aload_n 0, 1) := by decide +kernel
theorem d_Server_start_1 : decode b_Server_start 1 = .ok (.getfield 74, 3) := by decide +kernel
theorem d_Server_start_4 : decode b_Server_start 4 = .ok (.ifCond .eq 5, 3) := by decide +kernel
theorem d_Server_start_7 : decode b_Server_start 7 = .ok (.iconst 0, 1) := by decide +kernel
theorem d_Server_start_8 : decode b_Server_start 8 = .ok (.ireturn, 1) := by decide +kernel
theorem d_Server_state_0 : decode b_Server_state 0 = .ok (.iload_n 1, 1) := by decide +kernel
theorem d_Server_state_1 : decode b_Server_state 1 = .ok (.invokestatic 88, 3) := by decide +kernel
theorem d_Server_state_4 : decode b_Server_state 4 = .ok (.ifCond .ne 5, 3) := by decide +kernel
theorem d_Server_state_7 : decode b_Server_state 7 = .ok (.iconst (-1), 1) := by decide +kernel
theorem d_Server_state_8 : decode b_Server_state 8 = .ok (.ireturn, 1) := by decide +kernel
theorem d_Server_state_9 : decode b_Server_state 9 = .ok (.aload_n 0, 1) := by decide +kernel
theorem d_Server_state_10 : decode b_Server_state 10 = .ok (.getfield 15, 3) := by decide +kernel
theorem d_Server_state_13 : decode b_Server_state 13 = .ok (.iload_n 1, 1) := by decide +kernel
theorem d_Server_state_14 : decode b_Server_state 14 = .ok (.aaload, 1) := by decide +kernel
theorem d_Server_state_15 : decode b_Server_state 15 = .ok (.astore_n 2, 1) := by decide +kernel
theorem d_Server_state_16 : decode b_Server_state 16 = .ok (.aload_n 2, 1) := by decide +kernel
theorem d_Server_state_17 : decode b_Server_state 17 = .ok (.getfield 92, 3) := by decide +kernel
theorem d_Server_state_20 : decode b_Server_state 20 = .ok (.ifCond .ne 7, 3) := by decide +kernel
theorem d_Server_state_23 : decode b_Server_state 23 = .ok (.iconst 0, 1) := by decide +kernel
theorem d_Server_state_24 : decode b_Server_state 24 = .ok (.goto 23, 3) := by decide +kernel
theorem d_Server_state_47 : decode b_Server_state 47 = .ok (.ireturn, 1) := by decide +kernel
theorem d_Server_rings_0 : decode b_Server_rings 0 = .ok (.iconst 0, 1) := by decide +kernel
theorem d_Server_rings_1 : decode b_Server_rings 1 = .ok (.ireturn, 1) := by decide +kernel
theorem d_Server_count_0 : decode b_Server_count 0 = .ok (.iload_n 1, 1) := by decide +kernel
theorem d_Server_count_1 : decode b_Server_count 1 = .ok (.ifCond .lt 9, 3) := by decide +kernel
theorem d_Server_count_4 : decode b_Server_count 4 = .ok (.iload_n 1, 1) := by decide +kernel
theorem d_Server_count_5 : decode b_Server_count 5 = .ok (.bipush 8, 2) := by decide +kernel
theorem d_Server_count_7 : decode b_Server_count 7 = .ok (.if_icmp .le 5, 3) := by decide +kernel
theorem d_Server_count_10 : decode b_Server_count 10 = .ok (.iconst (-1), 1) := by decide +kernel
theorem d_Server_count_11 : decode b_Server_count 11 = .ok (.ireturn, 1) := by decide +kernel
theorem d_Server_count_12 : decode b_Server_count 12 = .ok (.iload_n 1, 1) := by decide +kernel
theorem d_Server_count_13 : decode b_Server_count 13 = .ok (.bipush 7, 2) := by decide +kernel
theorem d_Server_count_15 : decode b_Server_count 15 = .ok (.if_icmp .ne 8, 3) := by decide +kernel
theorem d_Server_count_18 : decode b_Server_count 18 = .ok (.aload_n 0, 1) := by decide +kernel
theorem d_Server_count_19 : decode b_Server_count 19 = .ok (.getfield 81, 3) := by decide +kernel
theorem d_Server_count_22 : decode b_Server_count 22 = .ok (.ireturn, 1) := by decide +kernel
theorem d_Server_count_23 : decode b_Server_count 23 = .ok (.aload_n 0, 1) := by decide +kernel
theorem d_Server_count_24 : decode b_Server_count 24 = .ok (.getfield 74, 3) := by decide +kernel
theorem d_Server_count_27 : decode b_Server_count 27 = .ok (.ifCond .ne 5, 3) := by decide +kernel
theorem d_Server_count_32 : decode b_Server_count 32 = .ok (.iload_n 1, 1) := by decide +kernel
theorem d_Server_count_33 : decode b_Server_count 33 = .ok (.tableswitch 93 0 6 #[43, 45, 53, 61, 69, 77, 85], 43) := by decide +kernel
theorem d_Server_count_76 : decode b_Server_count 76 = .ok (.iconst 1, 1) := by decide +kernel
theorem d_Server_count_77 : decode b_Server_count 77 = .ok (.ireturn, 1) := by decide +kernel
theorem d_Server_count_78 : decode b_Server_count 78 = .ok (.aload_n 0, 1) := by decide +kernel
theorem d_Server_count_79 : decode b_Server_count 79 = .ok (.getfield 22, 3) := by decide +kernel
theorem d_Server_count_82 : decode b_Server_count 82 = .ok (.getfield 170, 3) := by decide +kernel
theorem d_Server_count_85 : decode b_Server_count 85 = .ok (.ireturn, 1) := by decide +kernel
theorem d_Server_count_86 : decode b_Server_count 86 = .ok (.aload_n 0, 1) := by decide +kernel
theorem d_Server_count_87 : decode b_Server_count 87 = .ok (.getfield 22, 3) := by decide +kernel
theorem d_Server_count_90 : decode b_Server_count 90 = .ok (.getfield 160, 3) := by decide +kernel
theorem d_Server_count_93 : decode b_Server_count 93 = .ok (.ireturn, 1) := by decide +kernel
theorem d_Server_count_94 : decode b_Server_count 94 = .ok (.aload_n 0, 1) := by decide +kernel
theorem d_Server_count_95 : decode b_Server_count 95 = .ok (.getfield 29, 3) := by decide +kernel
theorem d_Server_count_98 : decode b_Server_count 98 = .ok (.getfield 173, 3) := by decide +kernel
theorem d_Server_count_101 : decode b_Server_count 101 = .ok (.ireturn, 1) := by decide +kernel
theorem d_Server_count_102 : decode b_Server_count 102 = .ok (.aload_n 0, 1) := by decide +kernel
theorem d_Server_count_103 : decode b_Server_count 103 = .ok (.getfield 29, 3) := by decide +kernel
theorem d_Server_count_106 : decode b_Server_count 106 = .ok (.getfield 176, 3) := by decide +kernel
theorem d_Server_count_109 : decode b_Server_count 109 = .ok (.ireturn, 1) := by decide +kernel
theorem d_Server_count_110 : decode b_Server_count 110 = .ok (.aload_n 0, 1) := by decide +kernel
theorem d_Server_count_111 : decode b_Server_count 111 = .ok (.getfield 22, 3) := by decide +kernel
theorem d_Server_count_114 : decode b_Server_count 114 = .ok (.invokevirtual 179, 3) := by decide +kernel
theorem d_Server_count_117 : decode b_Server_count 117 = .ok (.ireturn, 1) := by decide +kernel
theorem d_Server_count_118 : decode b_Server_count 118 = .ok (.aload_n 0, 1) := by decide +kernel
theorem d_Server_count_119 : decode b_Server_count 119 = .ok (.getfield 22, 3) := by decide +kernel
theorem d_Server_count_122 : decode b_Server_count 122 = .ok (.getfield 183, 3) := by decide +kernel
theorem d_Server_count_125 : decode b_Server_count 125 = .ok (.ireturn, 1) := by decide +kernel
theorem d_Server_count_126 : decode b_Server_count 126 = .ok (.aload_n 0, 1) := by decide +kernel
theorem d_Server_count_127 : decode b_Server_count 127 = .ok (.invokevirtual 186, 3) := by decide +kernel
theorem d_Server_count_130 : decode b_Server_count 130 = .ok (.ireturn, 1) := by decide +kernel
theorem d_Server_waiting_0 : decode b_Server_waiting 0 = .ok (.iconst 0, 1) := by decide +kernel
theorem d_Server_waiting_1 : decode b_Server_waiting 1 = .ok (.istore_n 1, 1) := by decide +kernel
theorem d_Server_waiting_2 : decode b_Server_waiting 2 = .ok (.iconst 0, 1) := by decide +kernel
theorem d_Server_waiting_3 : decode b_Server_waiting 3 = .ok (.istore_n 2, 1) := by decide +kernel
theorem d_Server_waiting_4 : decode b_Server_waiting 4 = .ok (.iload_n 2, 1) := by decide +kernel
theorem d_Server_waiting_5 : decode b_Server_waiting 5 = .ok (.bipush 6, 2) := by decide +kernel
theorem d_Server_waiting_7 : decode b_Server_waiting 7 = .ok (.if_icmp .ge 29, 3) := by decide +kernel
theorem d_Server_waiting_10 : decode b_Server_waiting 10 = .ok (.iload_n 1, 1) := by decide +kernel
theorem d_Server_waiting_11 : decode b_Server_waiting 11 = .ok (.aload_n 0, 1) := by decide +kernel
theorem d_Server_waiting_12 : decode b_Server_waiting 12 = .ok (.getfield 15, 3) := by decide +kernel
theorem d_Server_waiting_15 : decode b_Server_waiting 15 = .ok (.iload_n 2, 1) := by decide +kernel
theorem d_Server_waiting_16 : decode b_Server_waiting 16 = .ok (.aaload, 1) := by decide +kernel
theorem d_Server_waiting_17 : decode b_Server_waiting 17 = .ok (.getfield 110, 3) := by decide +kernel
theorem d_Server_waiting_20 : decode b_Server_waiting 20 = .ok (.ifCond .le 7, 3) := by decide +kernel
theorem d_Server_waiting_27 : decode b_Server_waiting 27 = .ok (.iconst 0, 1) := by decide +kernel
theorem d_Server_waiting_28 : decode b_Server_waiting 28 = .ok (.iadd, 1) := by decide +kernel
theorem d_Server_waiting_29 : decode b_Server_waiting 29 = .ok (.istore_n 1, 1) := by decide +kernel
theorem d_Server_waiting_30 : decode b_Server_waiting 30 = .ok (.iinc 2 1, 3) := by decide +kernel
theorem d_Server_waiting_33 : decode b_Server_waiting 33 = .ok (.goto (-29), 3) := by decide +kernel
theorem d_Server_waiting_36 : decode b_Server_waiting 36 = .ok (.iload_n 1, 1) := by decide +kernel
theorem d_Server_waiting_37 : decode b_Server_waiting 37 = .ok (.ireturn, 1) := by decide +kernel
theorem d_Model_init_0 : decode b_Model_init 0 = .ok (.aload_n 0, 1) := by decide +kernel
theorem d_Model_init_1 : decode b_Model_init 1 = .ok (.invokespecial 1, 3) := by decide +kernel
theorem d_Model_init_4 : decode b_Model_init 4 = .ok (.aload_n 0, 1) := by decide +kernel
theorem d_Model_init_5 : decode b_Model_init 5 = .ok (.iconst 1, 1) := by decide +kernel
theorem d_Model_init_6 : decode b_Model_init 6 = .ok (.putfield 7, 3) := by decide +kernel
theorem d_Model_init_9 : decode b_Model_init 9 = .ok (.aload_n 0, 1) := by decide +kernel
theorem d_Model_init_10 : decode b_Model_init 10 = .ok (.iconst (-1), 1) := by decide +kernel
theorem d_Model_init_11 : decode b_Model_init 11 = .ok (.putfield 13, 3) := by decide +kernel
theorem d_Model_init_14 : decode b_Model_init 14 = .ok (.aload_n 0, 1) := by decide +kernel
theorem d_Model_init_15 : decode b_Model_init 15 = .ok (.sipush 2000, 3) := by decide +kernel
theorem d_Model_init_18 : decode b_Model_init 18 = .ok (.newarray .byte, 2) := by decide +kernel
theorem d_Model_init_20 : decode b_Model_init 20 = .ok (.putfield 17, 3) := by decide +kernel
theorem d_Model_init_23 : decode b_Model_init 23 = .ok (.aload_n 0, 1) := by decide +kernel
theorem d_Model_init_24 : decode b_Model_init 24 = .ok (.new 21, 3) := by decide +kernel
theorem d_Model_init_27 : decode b_Model_init 27 = .ok (.dup, 1) := by decide +kernel
theorem d_Model_init_28 : decode b_Model_init 28 = .ok (.invokespecial 23, 3) := by decide +kernel
theorem d_Model_init_31 : decode b_Model_init 31 = .ok (.putfield 24, 3) := by decide +kernel
theorem d_Model_init_34 : decode b_Model_init 34 = .ok (.aload_n 0, 1) := by decide +kernel
theorem d_Model_init_35 : decode b_Model_init 35 = .ok (.bipush 6, 2) := by decide +kernel
theorem d_Model_init_37 : decode b_Model_init 37 = .ok (.anewarray 28, 3) := by decide +kernel
theorem d_Model_init_40 : decode b_Model_init 40 = .ok (.putfield 30, 3) := by decide +kernel
theorem d_Model_init_43 : decode b_Model_init 43 = .ok (.aload_n 0, 1) := by decide +kernel
theorem d_Model_init_44 : decode b_Model_init 44 = .ok (.new 34, 3) := by decide +kernel
theorem d_Model_init_47 : decode b_Model_init 47 = .ok (.dup, 1) := by decide +kernel
theorem d_Model_init_48 : decode b_Model_init 48 = .ok (.invokespecial 36, 3) := by decide +kernel
theorem d_Model_init_51 : decode b_Model_init 51 = .ok (.putfield 37, 3) := by decide +kernel
theorem d_Model_init_54 : decode b_Model_init 54 = .ok (.aload_n 0, 1) := by decide +kernel
theorem d_Model_init_55 : decode b_Model_init 55 = .ok (.sipush 1000, 3) := by decide +kernel
theorem d_Model_init_58 : decode b_Model_init 58 = .ok (.newarray .int, 2) := by decide +kernel
theorem d_Model_init_60 : decode b_Model_init 60 = .ok (.putfield 41, 3) := by decide +kernel
theorem d_Model_init_63 : decode b_Model_init 63 = .ok (.aload_n 0, 1) := by decide +kernel
theorem d_Model_init_64 : decode b_Model_init 64 = .ok (.sipush 1000, 3) := by decide +kernel
theorem d_Model_init_67 : decode b_Model_init 67 = .ok (.newarray .int, 2) := by decide +kernel
theorem d_Model_init_69 : decode b_Model_init 69 = .ok (.putfield 45, 3) := by decide +kernel
theorem d_Model_init_72 : decode b_Model_init 72 = .ok (.aload_n 0, 1) := by decide +kernel
theorem d_Model_init_73 : decode b_Model_init 73 = .ok (.sipush 1000, 3) := by decide +kernel
theorem d_Model_init_76 : decode b_Model_init 76 = .ok (.newarray .int, 2) := by decide +kernel
theorem d_Model_init_78 : decode b_Model_init 78 = .ok (.putfield 48, 3) := by decide +kernel
theorem d_Model_init_81 : decode b_Model_init 81 = .ok (.aload_n 0, 1) := by decide +kernel
theorem d_Model_init_82 : decode b_Model_init 82 = .ok (.sipush 1000, 3) := by decide +kernel
theorem d_Model_init_85 : decode b_Model_init 85 = .ok (.newarray .int, 2) := by decide +kernel
theorem d_Model_init_87 : decode b_Model_init 87 = .ok (.putfield 51, 3) := by decide +kernel
theorem d_Model_init_90 : decode b_Model_init 90 = .ok (.aload_n 0, 1) := by decide +kernel
theorem d_Model_init_91 : decode b_Model_init 91 = .ok (.sipush 1000, 3) := by decide +kernel
theorem d_Model_init_94 : decode b_Model_init 94 = .ok (.newarray .int, 2) := by decide +kernel
theorem d_Model_init_96 : decode b_Model_init 96 = .ok (.putfield 54, 3) := by decide +kernel
theorem d_Model_init_99 : decode b_Model_init 99 = .ok (.aload_n 0, 1) := by decide +kernel
theorem d_Model_init_100 : decode b_Model_init 100 = .ok (.sipush 1000, 3) := by decide +kernel
theorem d_Model_init_103 : decode b_Model_init 103 = .ok (.newarray .int, 2) := by decide +kernel
theorem d_Model_init_105 : decode b_Model_init 105 = .ok (.putfield 57, 3) := by decide +kernel
theorem d_Model_init_108 : decode b_Model_init 108 = .ok (.aload_n 0, 1) := by decide +kernel
theorem d_Model_init_109 : decode b_Model_init 109 = .ok (.sipush 1000, 3) := by decide +kernel
theorem d_Model_init_112 : decode b_Model_init 112 = .ok (.newarray .int, 2) := by decide +kernel
theorem d_Model_init_114 : decode b_Model_init 114 = .ok (.putfield 60, 3) := by decide +kernel
theorem d_Model_init_117 : decode b_Model_init 117 = .ok (.aload_n 0, 1) := by decide +kernel
theorem d_Model_init_118 : decode b_Model_init 118 = .ok (.new 63, 3) := by decide +kernel
theorem d_Model_init_121 : decode b_Model_init 121 = .ok (.dup, 1) := by decide +kernel
theorem d_Model_init_122 : decode b_Model_init 122 = .ok (.sipush 8000, 3) := by decide +kernel
theorem d_Model_init_125 : decode b_Model_init 125 = .ok (.invokespecial 65, 3) := by decide +kernel
theorem d_Model_init_128 : decode b_Model_init 128 = .ok (.putfield 68, 3) := by decide +kernel
theorem d_Model_init_131 : decode b_Model_init 131 = .ok (.aload_n 0, 1) := by decide +kernel
theorem d_Model_init_132 : decode b_Model_init 132 = .ok (.new 72, 3) := by decide +kernel
theorem d_Model_init_135 : decode b_Model_init 135 = .ok (.dup, 1) := by decide +kernel
theorem d_Model_init_136 : decode b_Model_init 136 = .ok (.aload_n 0, 1) := by decide +kernel
theorem d_Model_init_137 : decode b_Model_init 137 = .ok (.getfield 68, 3) := by decide +kernel
theorem d_Model_init_140 : decode b_Model_init 140 = .ok (.invokespecial 74, 3) := by decide +kernel
theorem d_Model_init_143 : decode b_Model_init 143 = .ok (.putfield 77, 3) := by decide +kernel
theorem d_Model_init_146 : decode b_Model_init 146 = .ok (.aload_n 0, 1) := by decide +kernel
theorem d_Model_init_147 : decode b_Model_init 147 = .ok (.sipush 4001, 3) := by decide +kernel
theorem d_Model_init_150 : decode b_Model_init 150 = .ok (.newarray .int, 2) := by decide +kernel
theorem d_Model_init_152 : decode b_Model_init 152 = .ok (.putfield 81, 3) := by decide +kernel
theorem d_Model_init_155 : decode b_Model_init 155 = .ok (.aload_n 0, 1) := by decide +kernel
theorem d_Model_init_156 : decode b_Model_init 156 = .ok (.sipush 4001, 3) := by decide +kernel
theorem d_Model_init_159 : decode b_Model_init 159 = .ok (.newarray .int, 2) := by decide +kernel
theorem d_Model_init_161 : decode b_Model_init 161 = .ok (.putfield 84, 3) := by decide +kernel
theorem d_Model_init_164 : decode b_Model_init 164 = .ok (.aload_n 0, 1) := by decide +kernel
theorem d_Model_init_165 : decode b_Model_init 165 = .ok (.sipush 4001, 3) := by decide +kernel
theorem d_Model_init_168 : decode b_Model_init 168 = .ok (.newarray .int, 2) := by decide +kernel
theorem d_Model_init_170 : decode b_Model_init 170 = .ok (.putfield 87, 3) := by decide +kernel
theorem d_Model_init_173 : decode b_Model_init 173 = .ok (.aload_n 0, 1) := by decide +kernel
theorem d_Model_init_174 : decode b_Model_init 174 = .ok (.sipush 4001, 3) := by decide +kernel
theorem d_Model_init_177 : decode b_Model_init 177 = .ok (.newarray .int, 2) := by decide +kernel
theorem d_Model_init_179 : decode b_Model_init 179 = .ok (.putfield 90, 3) := by decide +kernel
theorem d_Model_init_182 : decode b_Model_init 182 = .ok (.aload_n 0, 1) := by decide +kernel
theorem d_Model_init_183 : decode b_Model_init 183 = .ok (.sipush 432, 3) := by decide +kernel
theorem d_Model_init_186 : decode b_Model_init 186 = .ok (.newarray .int, 2) := by decide +kernel
theorem d_Model_init_188 : decode b_Model_init 188 = .ok (.putfield 93, 3) := by decide +kernel
theorem d_Model_init_191 : decode b_Model_init 191 = .ok (.aload_n 0, 1) := by decide +kernel
theorem d_Model_init_192 : decode b_Model_init 192 = .ok (.sipush 6001, 3) := by decide +kernel
theorem d_Model_init_195 : decode b_Model_init 195 = .ok (.newarray .int, 2) := by decide +kernel
theorem d_Model_init_197 : decode b_Model_init 197 = .ok (.putfield 96, 3) := by decide +kernel
theorem d_Model_init_200 : decode b_Model_init 200 = .ok (.aload_n 0, 1) := by decide +kernel
theorem d_Model_init_201 : decode b_Model_init 201 = .ok (.sipush 6001, 3) := by decide +kernel
theorem d_Model_init_204 : decode b_Model_init 204 = .ok (.newarray .int, 2) := by decide +kernel
theorem d_Model_init_206 : decode b_Model_init 206 = .ok (.putfield 99, 3) := by decide +kernel
theorem d_Model_init_209 : decode b_Model_init 209 = .ok (.aload_n 0, 1) := by decide +kernel
