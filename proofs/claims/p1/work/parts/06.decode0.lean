theorem d_Server_init_0 : decode b_Server_init 0 = .ok (.aload_n 0, 1) := by decide +kernel
theorem d_Server_init_1 : decode b_Server_init 1 = .ok (.invokespecial 3, 3) := by decide +kernel
theorem d_Server_init_4 : decode b_Server_init 4 = .ok (.aload_n 0, 1) := by decide +kernel
theorem d_Server_init_5 : decode b_Server_init 5 = .ok (.sipush 2000, 3) := by decide +kernel
theorem d_Server_init_8 : decode b_Server_init 8 = .ok (.newarray .byte, 2) := by decide +kernel
theorem d_Server_init_10 : decode b_Server_init 10 = .ok (.putfield 9, 3) := by decide +kernel
theorem d_Server_init_13 : decode b_Server_init 13 = .ok (.aload_n 0, 1) := by decide +kernel
theorem d_Server_init_14 : decode b_Server_init 14 = .ok (.bipush 6, 2) := by decide +kernel
theorem d_Server_init_16 : decode b_Server_init 16 = .ok (.anewarray 13, 3) := by decide +kernel
theorem d_Server_init_19 : decode b_Server_init 19 = .ok (.putfield 15, 3) := by decide +kernel
theorem d_Server_init_22 : decode b_Server_init 22 = .ok (.aload_n 0, 1) := by decide +kernel
theorem d_Server_init_23 : decode b_Server_init 23 = .ok (.new 19, 3) := by decide +kernel
theorem d_Server_init_26 : decode b_Server_init 26 = .ok (.dup, 1) := by decide +kernel
theorem d_Server_init_27 : decode b_Server_init 27 = .ok (.invokespecial 21, 3) := by decide +kernel
theorem d_Server_init_30 : decode b_Server_init 30 = .ok (.putfield 22, 3) := by decide +kernel
theorem d_Server_init_33 : decode b_Server_init 33 = .ok (.aload_n 0, 1) := by decide +kernel
theorem d_Server_init_34 : decode b_Server_init 34 = .ok (.new 26, 3) := by decide +kernel
theorem d_Server_init_37 : decode b_Server_init 37 = .ok (.dup, 1) := by decide +kernel
theorem d_Server_init_38 : decode b_Server_init 38 = .ok (.invokespecial 28, 3) := by decide +kernel
theorem d_Server_init_41 : decode b_Server_init 41 = .ok (.putfield 29, 3) := by decide +kernel
theorem d_Server_init_44 : decode b_Server_init 44 = .ok (.aload_n 0, 1) := by decide +kernel
theorem d_Server_init_45 : decode b_Server_init 45 = .ok (.new 33, 3) := by decide +kernel
theorem d_Server_init_48 : decode b_Server_init 48 = .ok (.dup, 1) := by decide +kernel
theorem d_Server_init_49 : decode b_Server_init 49 = .ok (.aload_n 0, 1) := by decide +kernel
theorem d_Server_init_50 : decode b_Server_init 50 = .ok (.getfield 22, 3) := by decide +kernel
theorem d_Server_init_53 : decode b_Server_init 53 = .ok (.aload_n 0, 1) := by decide +kernel
theorem d_Server_init_54 : decode b_Server_init 54 = .ok (.getfield 29, 3) := by decide +kernel
theorem d_Server_init_57 : decode b_Server_init 57 = .ok (.invokespecial 35, 3) := by decide +kernel
theorem d_Server_init_60 : decode b_Server_init 60 = .ok (.putfield 38, 3) := by decide +kernel
theorem d_Server_init_63 : decode b_Server_init 63 = .ok (.aload_n 0, 1) := by decide +kernel
theorem d_Server_init_64 : decode b_Server_init 64 = .ok (.new 42, 3) := by decide +kernel
theorem d_Server_init_67 : decode b_Server_init 67 = .ok (.dup, 1) := by decide +kernel
theorem d_Server_init_68 : decode b_Server_init 68 = .ok (.aload_n 0, 1) := by decide +kernel
theorem d_Server_init_69 : decode b_Server_init 69 = .ok (.getfield 22, 3) := by decide +kernel
theorem d_Server_init_72 : decode b_Server_init 72 = .ok (.invokespecial 44, 3) := by decide +kernel
theorem d_Server_init_75 : decode b_Server_init 75 = .ok (.putfield 47, 3) := by decide +kernel
theorem d_Server_init_78 : decode b_Server_init 78 = .ok (.aload_n 0, 1) := by decide +kernel
theorem d_Server_init_79 : decode b_Server_init 79 = .ok (.new 51, 3) := by decide +kernel
theorem d_Server_init_82 : decode b_Server_init 82 = .ok (.dup, 1) := by decide +kernel
theorem d_Server_init_83 : decode b_Server_init 83 = .ok (.aload_n 0, 1) := by decide +kernel
theorem d_Server_init_84 : decode b_Server_init 84 = .ok (.getfield 22, 3) := by decide +kernel
theorem d_Server_init_87 : decode b_Server_init 87 = .ok (.aload_n 0, 1) := by decide +kernel
theorem d_Server_init_88 : decode b_Server_init 88 = .ok (.getfield 29, 3) := by decide +kernel
theorem d_Server_init_91 : decode b_Server_init 91 = .ok (.aload_n 0, 1) := by decide +kernel
theorem d_Server_init_92 : decode b_Server_init 92 = .ok (.getfield 38, 3) := by decide +kernel
theorem d_Server_init_95 : decode b_Server_init 95 = .ok (.aload_n 0, 1) := by decide +kernel
theorem d_Server_init_96 : decode b_Server_init 96 = .ok (.getfield 47, 3) := by decide +kernel
theorem d_Server_init_99 : decode b_Server_init 99 = .ok (.invokespecial 53, 3) := by decide +kernel
theorem d_Server_init_102 : decode b_Server_init 102 = .ok (.putfield 56, 3) := by decide +kernel
theorem d_Server_init_105 : decode b_Server_init 105 = .ok (.aload_n 0, 1) := by decide +kernel
theorem d_Server_init_106 : decode b_Server_init 106 = .ok (.new 60, 3) := by decide +kernel
theorem d_Server_init_109 : decode b_Server_init 109 = .ok (.dup, 1) := by decide +kernel
theorem d_Server_init_110 : decode b_Server_init 110 = .ok (.invokespecial 62, 3) := by decide +kernel
theorem d_Server_init_113 : decode b_Server_init 113 = .ok (.putfield 63, 3) := by decide +kernel
theorem d_Server_init_116 : decode b_Server_init 116 = .ok (.aload_n 0, 1) := by decide +kernel
theorem d_Server_init_117 : decode b_Server_init 117 = .ok (.new 67, 3) := by decide +kernel
theorem d_Server_init_120 : decode b_Server_init 120 = .ok (.dup, 1) := by decide +kernel
theorem d_Server_init_121 : decode b_Server_init 121 = .ok (.aload_n 0, 1) := by decide +kernel
theorem d_Server_init_122 : decode b_Server_init 122 = .ok (.getfield 22, 3) := by decide +kernel
theorem d_Server_init_125 : decode b_Server_init 125 = .ok (.invokespecial 69, 3) := by decide +kernel
theorem d_Server_init_128 : decode b_Server_init 128 = .ok (.putfield 70, 3) := by decide +kernel
theorem d_Server_init_131 : decode b_Server_init 131 = .ok (.aload_n 0, 1) := by decide +kernel
theorem d_Server_init_132 : decode b_Server_init 132 = .ok (.iconst 1, 1) := by decide +kernel
theorem d_Server_init_133 : decode b_Server_init 133 = .ok (.putfield 74, 3) := by decide +kernel
theorem d_Server_init_136 : decode b_Server_init 136 = .ok (.iconst 0, 1) := by decide +kernel
theorem d_Server_init_137 : decode b_Server_init 137 = .ok (.istore_n 1, 1) := by decide +kernel
theorem d_Server_init_138 : decode b_Server_init 138 = .ok (.iload_n 1, 1) := by decide +kernel
theorem d_Server_init_139 : decode b_Server_init 139 = .ok (.bipush 6, 2) := by decide +kernel
theorem d_Server_init_141 : decode b_Server_init 141 = .ok (.if_icmp .ge 23, 3) := by decide +kernel
theorem d_Server_init_144 : decode b_Server_init 144 = .ok (.aload_n 0, 1) := by decide +kernel
theorem d_Server_init_145 : decode b_Server_init 145 = .ok (.getfield 15, 3) := by decide +kernel
theorem d_Server_init_148 : decode b_Server_init 148 = .ok (.iload_n 1, 1) := by decide +kernel
theorem d_Server_init_149 : decode b_Server_init 149 = .ok (.new 13, 3) := by decide +kernel
theorem d_Server_init_152 : decode b_Server_init 152 = .ok (.dup, 1) := by decide +kernel
theorem d_Server_init_153 : decode b_Server_init 153 = .ok (.iload_n 1, 1) := by decide +kernel
theorem d_Server_init_154 : decode b_Server_init 154 = .ok (.invokespecial 78, 3) := by decide +kernel
theorem d_Server_init_157 : decode b_Server_init 157 = .ok (.aastore, 1) := by decide +kernel
theorem d_Server_init_158 : decode b_Server_init 158 = .ok (.iinc 1 1, 3) := by decide +kernel
theorem d_Server_init_161 : decode b_Server_init 161 = .ok (.goto (-23), 3) := by decide +kernel
theorem d_Server_init_164 : decode b_Server_init 164 = .ok (.return_, 1) := by decide +kernel
theorem d_SStore_init_0 : decode b_SStore_init 0 = .ok (.aload_n 0, 1) := by decide +kernel
theorem d_SStore_init_1 : decode b_SStore_init 1 = .ok (.invokespecial 3, 3) := by decide +kernel
theorem d_SStore_init_4 : decode b_SStore_init 4 = .ok (.aload_n 0, 1) := by decide +kernel
theorem d_SStore_init_5 : decode b_SStore_init 5 = .ok (.bipush 8, 2) := by decide +kernel
theorem d_SStore_init_7 : decode b_SStore_init 7 = .ok (.anewarray 9, 3) := by decide +kernel
theorem d_SStore_init_10 : decode b_SStore_init 10 = .ok (.putfield 11, 3) := by decide +kernel
theorem d_SStore_init_13 : decode b_SStore_init 13 = .ok (.aload_n 0, 1) := by decide +kernel
theorem d_SStore_init_14 : decode b_SStore_init 14 = .ok (.bipush 8, 2) := by decide +kernel
theorem d_SStore_init_16 : decode b_SStore_init 16 = .ok (.newarray .int, 2) := by decide +kernel
theorem d_SStore_init_18 : decode b_SStore_init 18 = .ok (.putfield 17, 3) := by decide +kernel
theorem d_SStore_init_21 : decode b_SStore_init 21 = .ok (.aload_n 0, 1) := by decide +kernel
theorem d_SStore_init_22 : decode b_SStore_init 22 = .ok (.bipush 8, 2) := by decide +kernel
theorem d_SStore_init_24 : decode b_SStore_init 24 = .ok (.newarray .int, 2) := by decide +kernel
theorem d_SStore_init_26 : decode b_SStore_init 26 = .ok (.putfield 21, 3) := by decide +kernel
theorem d_SStore_init_29 : decode b_SStore_init 29 = .ok (.aload_n 0, 1) := by decide +kernel
theorem d_SStore_init_30 : decode b_SStore_init 30 = .ok (.bipush 8, 2) := by decide +kernel
theorem d_SStore_init_32 : decode b_SStore_init 32 = .ok (.newarray .boolean, 2) := by decide +kernel
theorem d_SStore_init_34 : decode b_SStore_init 34 = .ok (.putfield 24, 3) := by decide +kernel
theorem d_SStore_init_37 : decode b_SStore_init 37 = .ok (.aload_n 0, 1) := by decide +kernel
theorem d_SStore_init_38 : decode b_SStore_init 38 = .ok (.sipush 32000, 3) := by decide +kernel
theorem d_SStore_init_41 : decode b_SStore_init 41 = .ok (.newarray .long, 2) := by decide +kernel
theorem d_SStore_init_43 : decode b_SStore_init 43 = .ok (.putfield 28, 3) := by decide +kernel
theorem d_SStore_init_46 : decode b_SStore_init 46 = .ok (.aload_n 0, 1) := by decide +kernel
theorem d_SStore_init_47 : decode b_SStore_init 47 = .ok (.sipush 1000, 3) := by decide +kernel
theorem d_SStore_init_50 : decode b_SStore_init 50 = .ok (.newarray .int, 2) := by decide +kernel
theorem d_SStore_init_52 : decode b_SStore_init 52 = .ok (.putfield 32, 3) := by decide +kernel
theorem d_SStore_init_55 : decode b_SStore_init 55 = .ok (.aload_n 0, 1) := by decide +kernel
theorem d_SStore_init_56 : decode b_SStore_init 56 = .ok (.sipush 1000, 3) := by decide +kernel
theorem d_SStore_init_59 : decode b_SStore_init 59 = .ok (.newarray .int, 2) := by decide +kernel
theorem d_SStore_init_61 : decode b_SStore_init 61 = .ok (.putfield 35, 3) := by decide +kernel
theorem d_SStore_init_64 : decode b_SStore_init 64 = .ok (.aload_n 0, 1) := by decide +kernel
theorem d_SStore_init_65 : decode b_SStore_init 65 = .ok (.sipush 1000, 3) := by decide +kernel
theorem d_SStore_init_68 : decode b_SStore_init 68 = .ok (.newarray .int, 2) := by decide +kernel
theorem d_SStore_init_70 : decode b_SStore_init 70 = .ok (.putfield 38, 3) := by decide +kernel
theorem d_SStore_init_73 : decode b_SStore_init 73 = .ok (.aload_n 0, 1) := by decide +kernel
theorem d_SStore_init_74 : decode b_SStore_init 74 = .ok (.sipush 1000, 3) := by decide +kernel
theorem d_SStore_init_77 : decode b_SStore_init 77 = .ok (.newarray .int, 2) := by decide +kernel
theorem d_SStore_init_79 : decode b_SStore_init 79 = .ok (.putfield 41, 3) := by decide +kernel
theorem d_SStore_init_82 : decode b_SStore_init 82 = .ok (.aload_n 0, 1) := by decide +kernel
theorem d_SStore_init_83 : decode b_SStore_init 83 = .ok (.sipush 1000, 3) := by decide +kernel
theorem d_SStore_init_86 : decode b_SStore_init 86 = .ok (.newarray .int, 2) := by decide +kernel
theorem d_SStore_init_88 : decode b_SStore_init 88 = .ok (.putfield 44, 3) := by decide +kernel
theorem d_SStore_init_91 : decode b_SStore_init 91 = .ok (.aload_n 0, 1) := by decide +kernel
theorem d_SStore_init_92 : decode b_SStore_init 92 = .ok (.sipush 1000, 3) := by decide +kernel
theorem d_SStore_init_95 : decode b_SStore_init 95 = .ok (.newarray .int, 2) := by decide +kernel
theorem d_SStore_init_97 : decode b_SStore_init 97 = .ok (.putfield 47, 3) := by decide +kernel
theorem d_SStore_init_100 : decode b_SStore_init 100 = .ok (.aload_n 0, 1) := by decide +kernel
theorem d_SStore_init_101 : decode b_SStore_init 101 = .ok (.sipush 12000, 3) := by decide +kernel
theorem d_SStore_init_104 : decode b_SStore_init 104 = .ok (.newarray .int, 2) := by decide +kernel
theorem d_SStore_init_106 : decode b_SStore_init 106 = .ok (.putfield 50, 3) := by decide +kernel
theorem d_SStore_init_109 : decode b_SStore_init 109 = .ok (.aload_n 0, 1) := by decide +kernel
theorem d_SStore_init_110 : decode b_SStore_init 110 = .ok (.sipush 1000, 3) := by decide +kernel
theorem d_SStore_init_113 : decode b_SStore_init 113 = .ok (.newarray .int, 2) := by decide +kernel
theorem d_SStore_init_115 : decode b_SStore_init 115 = .ok (.putfield 53, 3) := by decide +kernel
theorem d_SStore_init_118 : decode b_SStore_init 118 = .ok (.iconst 0, 1) := by decide +kernel
theorem d_SStore_init_119 : decode b_SStore_init 119 = .ok (.istore_n 1, 1) := by decide +kernel
theorem d_SStore_init_120 : decode b_SStore_init 120 = .ok (.iload_n 1, 1) := by decide +kernel
theorem d_SStore_init_121 : decode b_SStore_init 121 = .ok (.bipush 8, 2) := by decide +kernel
theorem d_SStore_init_123 : decode b_SStore_init 123 = .ok (.if_icmp .ge 22, 3) := by decide +kernel
theorem d_SStore_init_126 : decode b_SStore_init 126 = .ok (.aload_n 0, 1) := by decide +kernel
theorem d_SStore_init_127 : decode b_SStore_init 127 = .ok (.getfield 11, 3) := by decide +kernel
theorem d_SStore_init_130 : decode b_SStore_init 130 = .ok (.iload_n 1, 1) := by decide +kernel
theorem d_SStore_init_131 : decode b_SStore_init 131 = .ok (.new 9, 3) := by decide +kernel
theorem d_SStore_init_134 : decode b_SStore_init 134 = .ok (.dup, 1) := by decide +kernel
theorem d_SStore_init_135 : decode b_SStore_init 135 = .ok (.invokespecial 56, 3) := by decide +kernel
theorem d_SStore_init_138 : decode b_SStore_init 138 = .ok (.aastore, 1) := by decide +kernel
theorem d_SStore_init_139 : decode b_SStore_init 139 = .ok (.iinc 1 1, 3) := by decide +kernel
theorem d_SStore_init_142 : decode b_SStore_init 142 = .ok (.goto (-22), 3) := by decide +kernel
theorem d_SStore_init_145 : decode b_SStore_init 145 = .ok (.iconst 0, 1) := by decide +kernel
theorem d_SStore_init_146 : decode b_SStore_init 146 = .ok (.istore_n 1, 1) := by decide +kernel
theorem d_SStore_init_147 : decode b_SStore_init 147 = .ok (.iload_n 1, 1) := by decide +kernel
theorem d_SStore_init_148 : decode b_SStore_init 148 = .ok (.sipush 1000, 3) := by decide +kernel
theorem d_SStore_init_151 : decode b_SStore_init 151 = .ok (.if_icmp .ge 20, 3) := by decide +kernel
theorem d_SStore_init_154 : decode b_SStore_init 154 = .ok (.aload_n 0, 1) := by decide +kernel
theorem d_SStore_init_155 : decode b_SStore_init 155 = .ok (.getfield 53, 3) := by decide +kernel
theorem d_SStore_init_158 : decode b_SStore_init 158 = .ok (.iload_n 1, 1) := by decide +kernel
theorem d_SStore_init_159 : decode b_SStore_init 159 = .ok (.sipush 999, 3) := by decide +kernel
theorem d_SStore_init_162 : decode b_SStore_init 162 = .ok (.iload_n 1, 1) := by decide +kernel
theorem d_SStore_init_163 : decode b_SStore_init 163 = .ok (.isub, 1) := by decide +kernel
theorem d_SStore_init_164 : decode b_SStore_init 164 = .ok (.iastore, 1) := by decide +kernel
theorem d_SStore_init_165 : decode b_SStore_init 165 = .ok (.iinc 1 1, 3) := by decide +kernel
theorem d_SStore_init_168 : decode b_SStore_init 168 = .ok (.goto (-21), 3) := by decide +kernel
theorem d_SStore_init_171 : decode b_SStore_init 171 = .ok (.return_, 1) := by decide +kernel
theorem d_STable_init_0 : decode b_STable_init 0 = .ok (.aload_n 0, 1) := by decide +kernel
theorem d_STable_init_1 : decode b_STable_init 1 = .ok (.invokespecial 3, 3) := by decide +kernel
theorem d_STable_init_4 : decode b_STable_init 4 = .ok (.aload_n 0, 1) := by decide +kernel
theorem d_STable_init_5 : decode b_STable_init 5 = .ok (.bipush 8, 2) := by decide +kernel
theorem d_STable_init_7 : decode b_STable_init 7 = .ok (.newarray .int, 2) := by decide +kernel
theorem d_STable_init_9 : decode b_STable_init 9 = .ok (.putfield 9, 3) := by decide +kernel
theorem d_STable_init_12 : decode b_STable_init 12 = .ok (.aload_n 0, 1) := by decide +kernel
theorem d_STable_init_13 : decode b_STable_init 13 = .ok (.bipush 8, 2) := by decide +kernel
theorem d_STable_init_15 : decode b_STable_init 15 = .ok (.newarray .int, 2) := by decide +kernel
theorem d_STable_init_17 : decode b_STable_init 17 = .ok (.putfield 15, 3) := by decide +kernel
theorem d_STable_init_20 : decode b_STable_init 20 = .ok (.aload_n 0, 1) := by decide +kernel
theorem d_STable_init_21 : decode b_STable_init 21 = .ok (.bipush 8, 2) := by decide +kernel
theorem d_STable_init_23 : decode b_STable_init 23 = .ok (.newarray .boolean, 2) := by decide +kernel
theorem d_STable_init_25 : decode b_STable_init 25 = .ok (.putfield 18, 3) := by decide +kernel
theorem d_STable_init_28 : decode b_STable_init 28 = .ok (.aload_n 0, 1) := by decide +kernel
theorem d_STable_init_29 : decode b_STable_init 29 = .ok (.sipush 1000, 3) := by decide +kernel
theorem d_STable_init_32 : decode b_STable_init 32 = .ok (.newarray .int, 2) := by decide +kernel
theorem d_STable_init_34 : decode b_STable_init 34 = .ok (.putfield 22, 3) := by decide +kernel
theorem d_STable_init_37 : decode b_STable_init 37 = .ok (.return_, 1) := by decide +kernel
theorem d_SLedger_init_0 : decode b_SLedger_init 0 = .ok (.aload_n 0, 1) := by decide +kernel
theorem d_SLedger_init_1 : decode b_SLedger_init 1 = .ok (.invokespecial 3, 3) := by decide +kernel
theorem d_SLedger_init_4 : decode b_SLedger_init 4 = .ok (.aload_n 0, 1) := by decide +kernel
theorem d_SLedger_init_5 : decode b_SLedger_init 5 = .ok (.sipush 4001, 3) := by decide +kernel
theorem d_SLedger_init_8 : decode b_SLedger_init 8 = .ok (.newarray .byte, 2) := by decide +kernel
theorem d_SLedger_init_10 : decode b_SLedger_init 10 = .ok (.putfield 9, 3) := by decide +kernel
theorem d_SLedger_init_13 : decode b_SLedger_init 13 = .ok (.aload_n 0, 1) := by decide +kernel
theorem d_SLedger_init_14 : decode b_SLedger_init 14 = .ok (.sipush 4001, 3) := by decide +kernel
theorem d_SLedger_init_17 : decode b_SLedger_init 17 = .ok (.newarray .byte, 2) := by decide +kernel
theorem d_SLedger_init_19 : decode b_SLedger_init 19 = .ok (.putfield 15, 3) := by decide +kernel
theorem d_SLedger_init_22 : decode b_SLedger_init 22 = .ok (.aload_n 0, 1) := by decide +kernel
theorem d_SLedger_init_23 : decode b_SLedger_init 23 = .ok (.sipush 4001, 3) := by decide +kernel
theorem d_SLedger_init_26 : decode b_SLedger_init 26 = .ok (.newarray .byte, 2) := by decide +kernel
theorem d_SLedger_init_28 : decode b_SLedger_init 28 = .ok (.putfield 18, 3) := by decide +kernel
theorem d_SLedger_init_31 : decode b_SLedger_init 31 = .ok (.aload_n 0, 1) := by decide +kernel
theorem d_SLedger_init_32 : decode b_SLedger_init 32 = .ok (.sipush 4001, 3) := by decide +kernel
theorem d_SLedger_init_35 : decode b_SLedger_init 35 = .ok (.newarray .byte, 2) := by decide +kernel
theorem d_SLedger_init_37 : decode b_SLedger_init 37 = .ok (.putfield 21, 3) := by decide +kernel
