theorem d_Model_state_12 : decode b_Model_state 12 = .ok (.aload_n 0, 1) := by decide +kernel
theorem d_Model_state_13 : decode b_Model_state 13 = .ok (.getfield 30, 3) := by decide +kernel
theorem d_Model_state_16 : decode b_Model_state 16 = .ok (.iload_n 1, 1) := by decide +kernel
theorem d_Model_state_17 : decode b_Model_state 17 = .ok (.aaload, 1) := by decide +kernel
theorem d_Model_state_18 : decode b_Model_state 18 = .ok (.astore_n 2, 1) := by decide +kernel
theorem d_Model_state_19 : decode b_Model_state 19 = .ok (.aload_n 2, 1) := by decide +kernel
theorem d_Model_state_20 : decode b_Model_state 20 = .ok (.getfield 192, 3) := by decide +kernel
theorem d_Model_state_23 : decode b_Model_state 23 = .ok (.ifCond .ne 7, 3) := by decide +kernel
theorem d_Model_state_26 : decode b_Model_state 26 = .ok (.iconst 0, 1) := by decide +kernel
theorem d_Model_state_27 : decode b_Model_state 27 = .ok (.goto 26, 3) := by decide +kernel
theorem d_Model_state_53 : decode b_Model_state 53 = .ok (.istore_n 3, 1) := by decide +kernel
theorem d_Model_state_54 : decode b_Model_state 54 = .ok (.aload_n 2, 1) := by decide +kernel
theorem d_Model_state_55 : decode b_Model_state 55 = .ok (.getfield 195, 3) := by decide +kernel
theorem d_Model_state_58 : decode b_Model_state 58 = .ok (.ifCond .le 9, 3) := by decide +kernel
theorem d_Model_state_67 : decode b_Model_state 67 = .ok (.iload_n 3, 1) := by decide +kernel
theorem d_Model_state_68 : decode b_Model_state 68 = .ok (.ireturn, 1) := by decide +kernel
theorem d_Model_rings_0 : decode b_Model_rings 0 = .ok (.aload_n 0, 1) := by decide +kernel
theorem d_Model_rings_1 : decode b_Model_rings 1 = .ok (.getfield 37, 3) := by decide +kernel
theorem d_Model_rings_4 : decode b_Model_rings 4 = .ok (.invokevirtual 922, 3) := by decide +kernel
theorem d_Model_rings_7 : decode b_Model_rings 7 = .ok (.ireturn, 1) := by decide +kernel
theorem d_MSerial_countRings_0 : decode b_MSerial_countRings 0 = .ok (.iconst 0, 1) := by decide +kernel
theorem d_MSerial_countRings_1 : decode b_MSerial_countRings 1 = .ok (.istore_n 1, 1) := by decide +kernel
theorem d_MSerial_countRings_2 : decode b_MSerial_countRings 2 = .ok (.iconst 1, 1) := by decide +kernel
theorem d_MSerial_countRings_3 : decode b_MSerial_countRings 3 = .ok (.istore_n 2, 1) := by decide +kernel
theorem d_MSerial_countRings_4 : decode b_MSerial_countRings 4 = .ok (.iload_n 2, 1) := by decide +kernel
theorem d_MSerial_countRings_5 : decode b_MSerial_countRings 5 = .ok (.aload_n 0, 1) := by decide +kernel
theorem d_MSerial_countRings_6 : decode b_MSerial_countRings 6 = .ok (.getfield 63, 3) := by decide +kernel
theorem d_MSerial_countRings_9 : decode b_MSerial_countRings 9 = .ok (.if_icmp .gt 34, 3) := by decide +kernel
theorem d_MSerial_countRings_43 : decode b_MSerial_countRings 43 = .ok (.iload_n 1, 1) := by decide +kernel
theorem d_MSerial_countRings_44 : decode b_MSerial_countRings 44 = .ok (.ireturn, 1) := by decide +kernel
theorem d_Model_count_0 : decode b_Model_count 0 = .ok (.iload_n 1, 1) := by decide +kernel
theorem d_Model_count_1 : decode b_Model_count 1 = .ok (.ifCond .lt 9, 3) := by decide +kernel
theorem d_Model_count_4 : decode b_Model_count 4 = .ok (.iload_n 1, 1) := by decide +kernel
theorem d_Model_count_5 : decode b_Model_count 5 = .ok (.bipush 8, 2) := by decide +kernel
theorem d_Model_count_7 : decode b_Model_count 7 = .ok (.if_icmp .le 5, 3) := by decide +kernel
theorem d_Model_count_10 : decode b_Model_count 10 = .ok (.iconst (-1), 1) := by decide +kernel
theorem d_Model_count_11 : decode b_Model_count 11 = .ok (.ireturn, 1) := by decide +kernel
theorem d_Model_count_12 : decode b_Model_count 12 = .ok (.iload_n 1, 1) := by decide +kernel
theorem d_Model_count_13 : decode b_Model_count 13 = .ok (.bipush 7, 2) := by decide +kernel
theorem d_Model_count_15 : decode b_Model_count 15 = .ok (.if_icmp .ne 8, 3) := by decide +kernel
theorem d_Model_count_18 : decode b_Model_count 18 = .ok (.aload_n 0, 1) := by decide +kernel
theorem d_Model_count_19 : decode b_Model_count 19 = .ok (.getfield 902, 3) := by decide +kernel
theorem d_Model_count_22 : decode b_Model_count 22 = .ok (.ireturn, 1) := by decide +kernel
theorem d_Model_count_23 : decode b_Model_count 23 = .ok (.aload_n 0, 1) := by decide +kernel
theorem d_Model_count_24 : decode b_Model_count 24 = .ok (.getfield 7, 3) := by decide +kernel
theorem d_Model_count_27 : decode b_Model_count 27 = .ok (.ifCond .ne 5, 3) := by decide +kernel
theorem d_Model_count_32 : decode b_Model_count 32 = .ok (.iconst 0, 1) := by decide +kernel
theorem d_Model_count_33 : decode b_Model_count 33 = .ok (.istore_n 2, 1) := by decide +kernel
theorem d_Model_count_34 : decode b_Model_count 34 = .ok (.iconst 0, 1) := by decide +kernel
theorem d_Model_count_35 : decode b_Model_count 35 = .ok (.istore_n 3, 1) := by decide +kernel
theorem d_Model_count_36 : decode b_Model_count 36 = .ok (.iload_n 3, 1) := by decide +kernel
theorem d_Model_count_37 : decode b_Model_count 37 = .ok (.bipush 6, 2) := by decide +kernel
theorem d_Model_count_39 : decode b_Model_count 39 = .ok (.if_icmp .ge 29, 3) := by decide +kernel
theorem d_Model_count_42 : decode b_Model_count 42 = .ok (.aload_n 0, 1) := by decide +kernel
theorem d_Model_count_43 : decode b_Model_count 43 = .ok (.getfield 30, 3) := by decide +kernel
theorem d_Model_count_46 : decode b_Model_count 46 = .ok (.iload_n 3, 1) := by decide +kernel
theorem d_Model_count_47 : decode b_Model_count 47 = .ok (.aaload, 1) := by decide +kernel
theorem d_Model_count_48 : decode b_Model_count 48 = .ok (.getfield 195, 3) := by decide +kernel
theorem d_Model_count_51 : decode b_Model_count 51 = .ok (.ifCond .le 9, 3) := by decide +kernel
theorem d_Model_count_60 : decode b_Model_count 60 = .ok (.iload_n 2, 1) := by decide +kernel
theorem d_Model_count_61 : decode b_Model_count 61 = .ok (.istore_n 2, 1) := by decide +kernel
theorem d_Model_count_62 : decode b_Model_count 62 = .ok (.iinc 3 1, 3) := by decide +kernel
theorem d_Model_count_65 : decode b_Model_count 65 = .ok (.goto (-29), 3) := by decide +kernel
theorem d_Model_count_68 : decode b_Model_count 68 = .ok (.iload_n 1, 1) := by decide +kernel
theorem d_Model_count_69 : decode b_Model_count 69 = .ok (.ifCond .ne 7, 3) := by decide +kernel
theorem d_Model_count_72 : decode b_Model_count 72 = .ok (.iconst 1, 1) := by decide +kernel
theorem d_Model_count_73 : decode b_Model_count 73 = .ok (.goto 83, 3) := by decide +kernel
theorem d_Model_count_76 : decode b_Model_count 76 = .ok (.iload_n 1, 1) := by decide +kernel
theorem d_Model_count_77 : decode b_Model_count 77 = .ok (.iconst 1, 1) := by decide +kernel
theorem d_Model_count_78 : decode b_Model_count 78 = .ok (.if_icmp .ne 10, 3) := by decide +kernel
theorem d_Model_count_81 : decode b_Model_count 81 = .ok (.aload_n 0, 1) := by decide +kernel
theorem d_Model_count_82 : decode b_Model_count 82 = .ok (.getfield 421, 3) := by decide +kernel
theorem d_Model_count_85 : decode b_Model_count 85 = .ok (.goto 71, 3) := by decide +kernel
theorem d_Model_count_88 : decode b_Model_count 88 = .ok (.iload_n 1, 1) := by decide +kernel
theorem d_Model_count_89 : decode b_Model_count 89 = .ok (.iconst 2, 1) := by decide +kernel
theorem d_Model_count_90 : decode b_Model_count 90 = .ok (.if_icmp .ne 10, 3) := by decide +kernel
theorem d_Model_count_93 : decode b_Model_count 93 = .ok (.aload_n 0, 1) := by decide +kernel
theorem d_Model_count_94 : decode b_Model_count 94 = .ok (.getfield 204, 3) := by decide +kernel
theorem d_Model_count_97 : decode b_Model_count 97 = .ok (.goto 59, 3) := by decide +kernel
theorem d_Model_count_100 : decode b_Model_count 100 = .ok (.iload_n 1, 1) := by decide +kernel
theorem d_Model_count_101 : decode b_Model_count 101 = .ok (.iconst 3, 1) := by decide +kernel
theorem d_Model_count_102 : decode b_Model_count 102 = .ok (.if_icmp .ne 10, 3) := by decide +kernel
theorem d_Model_count_105 : decode b_Model_count 105 = .ok (.aload_n 0, 1) := by decide +kernel
theorem d_Model_count_106 : decode b_Model_count 106 = .ok (.getfield 210, 3) := by decide +kernel
theorem d_Model_count_109 : decode b_Model_count 109 = .ok (.goto 47, 3) := by decide +kernel
theorem d_Model_count_112 : decode b_Model_count 112 = .ok (.iload_n 1, 1) := by decide +kernel
theorem d_Model_count_113 : decode b_Model_count 113 = .ok (.iconst 4, 1) := by decide +kernel
theorem d_Model_count_114 : decode b_Model_count 114 = .ok (.if_icmp .ne 10, 3) := by decide +kernel
theorem d_Model_count_117 : decode b_Model_count 117 = .ok (.aload_n 0, 1) := by decide +kernel
theorem d_Model_count_118 : decode b_Model_count 118 = .ok (.getfield 216, 3) := by decide +kernel
theorem d_Model_count_121 : decode b_Model_count 121 = .ok (.goto 35, 3) := by decide +kernel
theorem d_Model_count_124 : decode b_Model_count 124 = .ok (.iload_n 1, 1) := by decide +kernel
theorem d_Model_count_125 : decode b_Model_count 125 = .ok (.iconst 5, 1) := by decide +kernel
theorem d_Model_count_126 : decode b_Model_count 126 = .ok (.if_icmp .ne 13, 3) := by decide +kernel
theorem d_Model_count_129 : decode b_Model_count 129 = .ok (.aload_n 0, 1) := by decide +kernel
theorem d_Model_count_130 : decode b_Model_count 130 = .ok (.getfield 24, 3) := by decide +kernel
theorem d_Model_count_133 : decode b_Model_count 133 = .ok (.invokevirtual 742, 3) := by decide +kernel
theorem d_Model_count_136 : decode b_Model_count 136 = .ok (.goto 20, 3) := by decide +kernel
theorem d_Model_count_139 : decode b_Model_count 139 = .ok (.iload_n 1, 1) := by decide +kernel
theorem d_Model_count_140 : decode b_Model_count 140 = .ok (.bipush 6, 2) := by decide +kernel
theorem d_Model_count_142 : decode b_Model_count 142 = .ok (.if_icmp .ne 13, 3) := by decide +kernel
theorem d_Model_count_145 : decode b_Model_count 145 = .ok (.aload_n 0, 1) := by decide +kernel
theorem d_Model_count_146 : decode b_Model_count 146 = .ok (.getfield 24, 3) := by decide +kernel
theorem d_Model_count_149 : decode b_Model_count 149 = .ok (.getfield 377, 3) := by decide +kernel
theorem d_Model_count_152 : decode b_Model_count 152 = .ok (.goto 4, 3) := by decide +kernel
theorem d_Model_count_155 : decode b_Model_count 155 = .ok (.iload_n 2, 1) := by decide +kernel
theorem d_Model_count_156 : decode b_Model_count 156 = .ok (.ireturn, 1) := by decide +kernel
