theorem d_Model_feed_17 : decode b_Model_feed 17 = .ok (.bipush 20, 2) := by decide +kernel
theorem d_Model_feed_19 : decode b_Model_feed 19 = .ok (.if_icmp .ge 83, 3) := by decide +kernel
theorem d_Model_feed_22 : decode b_Model_feed 22 = .ok (.iload 6, 2) := by decide +kernel
theorem d_Model_feed_24 : decode b_Model_feed 24 = .ok (.iconst 4, 1) := by decide +kernel
theorem d_Model_feed_25 : decode b_Model_feed 25 = .ok (.if_icmp .ge 7, 3) := by decide +kernel
theorem d_Model_feed_28 : decode b_Model_feed 28 = .ok (.iload_n 1, 1) := by decide +kernel
theorem d_Model_feed_29 : decode b_Model_feed 29 = .ok (.goto 39, 3) := by decide +kernel
theorem d_Model_feed_32 : decode b_Model_feed 32 = .ok (.iload 6, 2) := by decide +kernel
theorem d_Model_feed_34 : decode b_Model_feed 34 = .ok (.bipush 8, 2) := by decide +kernel
theorem d_Model_feed_36 : decode b_Model_feed 36 = .ok (.if_icmp .ge 7, 3) := by decide +kernel
theorem d_Model_feed_39 : decode b_Model_feed 39 = .ok (.iload_n 2, 1) := by decide +kernel
theorem d_Model_feed_40 : decode b_Model_feed 40 = .ok (.goto 28, 3) := by decide +kernel
theorem d_Model_feed_43 : decode b_Model_feed 43 = .ok (.iload 6, 2) := by decide +kernel
theorem d_Model_feed_45 : decode b_Model_feed 45 = .ok (.bipush 12, 2) := by decide +kernel
theorem d_Model_feed_47 : decode b_Model_feed 47 = .ok (.if_icmp .ge 7, 3) := by decide +kernel
theorem d_Model_feed_50 : decode b_Model_feed 50 = .ok (.iload_n 3, 1) := by decide +kernel
theorem d_Model_feed_51 : decode b_Model_feed 51 = .ok (.goto 17, 3) := by decide +kernel
theorem d_Model_feed_54 : decode b_Model_feed 54 = .ok (.iload 6, 2) := by decide +kernel
theorem d_Model_feed_56 : decode b_Model_feed 56 = .ok (.bipush 16, 2) := by decide +kernel
theorem d_Model_feed_58 : decode b_Model_feed 58 = .ok (.if_icmp .ge 8, 3) := by decide +kernel
theorem d_Model_feed_61 : decode b_Model_feed 61 = .ok (.iload 4, 2) := by decide +kernel
theorem d_Model_feed_63 : decode b_Model_feed 63 = .ok (.goto 5, 3) := by decide +kernel
theorem d_Model_feed_66 : decode b_Model_feed 66 = .ok (.iload 5, 2) := by decide +kernel
theorem d_Model_feed_68 : decode b_Model_feed 68 = .ok (.istore 7, 2) := by decide +kernel
theorem d_Model_feed_70 : decode b_Model_feed 70 = .ok (.aload_n 0, 1) := by decide +kernel
theorem d_Model_feed_71 : decode b_Model_feed 71 = .ok (.getfield 17, 3) := by decide +kernel
theorem d_Model_feed_74 : decode b_Model_feed 74 = .ok (.aload_n 0, 1) := by decide +kernel
theorem d_Model_feed_75 : decode b_Model_feed 75 = .ok (.getfield 902, 3) := by decide +kernel
theorem d_Model_feed_78 : decode b_Model_feed 78 = .ok (.iload 6, 2) := by decide +kernel
theorem d_Model_feed_80 : decode b_Model_feed 80 = .ok (.iadd, 1) := by decide +kernel
theorem d_Model_feed_81 : decode b_Model_feed 81 = .ok (.iload 7, 2) := by decide +kernel
theorem d_Model_feed_83 : decode b_Model_feed 83 = .ok (.bipush 24, 2) := by decide +kernel
theorem d_Model_feed_85 : decode b_Model_feed 85 = .ok (.bipush 8, 2) := by decide +kernel
theorem d_Model_feed_87 : decode b_Model_feed 87 = .ok (.iload 6, 2) := by decide +kernel
theorem d_Model_feed_89 : decode b_Model_feed 89 = .ok (.iconst 4, 1) := by decide +kernel
theorem d_Model_feed_90 : decode b_Model_feed 90 = .ok (.irem, 1) := by decide +kernel
theorem d_Model_feed_91 : decode b_Model_feed 91 = .ok (.imul, 1) := by decide +kernel
theorem d_Model_feed_92 : decode b_Model_feed 92 = .ok (.isub, 1) := by decide +kernel
theorem d_Model_feed_93 : decode b_Model_feed 93 = .ok (.ishr, 1) := by decide +kernel
theorem d_Model_feed_94 : decode b_Model_feed 94 = .ok (.i2b, 1) := by decide +kernel
theorem d_Model_feed_95 : decode b_Model_feed 95 = .ok (.bastore, 1) := by decide +kernel
theorem d_Model_feed_96 : decode b_Model_feed 96 = .ok (.iinc 6 1, 3) := by decide +kernel
theorem d_Model_feed_99 : decode b_Model_feed 99 = .ok (.goto (-84), 3) := by decide +kernel
theorem d_Model_feed_102 : decode b_Model_feed 102 = .ok (.aload_n 0, 1) := by decide +kernel
theorem d_Model_feed_103 : decode b_Model_feed 103 = .ok (.aload_n 0, 1) := by decide +kernel
theorem d_Model_feed_104 : decode b_Model_feed 104 = .ok (.getfield 902, 3) := by decide +kernel
theorem d_Model_feed_107 : decode b_Model_feed 107 = .ok (.bipush 20, 2) := by decide +kernel
theorem d_Model_feed_109 : decode b_Model_feed 109 = .ok (.iadd, 1) := by decide +kernel
theorem d_Model_feed_110 : decode b_Model_feed 110 = .ok (.putfield 902, 3) := by decide +kernel
theorem d_Model_feed_113 : decode b_Model_feed 113 = .ok (.iconst 1, 1) := by decide +kernel
theorem d_Model_feed_114 : decode b_Model_feed 114 = .ok (.ireturn, 1) := by decide +kernel
theorem d_Model_open_0 : decode b_Model_open 0 = .ok (.iload_n 1, 1) := by decide +kernel
theorem d_Model_open_1 : decode b_Model_open 1 = .ok (.ifCond .lt 28, 3) := by decide +kernel
theorem d_Model_open_4 : decode b_Model_open 4 = .ok (.iload_n 1, 1) := by decide +kernel
theorem d_Model_open_5 : decode b_Model_open 5 = .ok (.bipush 6, 2) := by decide +kernel
theorem d_Model_open_7 : decode b_Model_open 7 = .ok (.if_icmp .ge 22, 3) := by decide +kernel
theorem d_Model_open_10 : decode b_Model_open 10 = .ok (.aload_n 0, 1) := by decide +kernel
theorem d_Model_open_11 : decode b_Model_open 11 = .ok (.getfield 30, 3) := by decide +kernel
theorem d_Model_open_14 : decode b_Model_open 14 = .ok (.iload_n 1, 1) := by decide +kernel
theorem d_Model_open_15 : decode b_Model_open 15 = .ok (.aaload, 1) := by decide +kernel
theorem d_Model_open_16 : decode b_Model_open 16 = .ok (.getfield 192, 3) := by decide +kernel
theorem d_Model_open_19 : decode b_Model_open 19 = .ok (.ifCond .ne 10, 3) := by decide +kernel
theorem d_Model_open_22 : decode b_Model_open 22 = .ok (.aload_n 0, 1) := by decide +kernel
theorem d_Model_open_23 : decode b_Model_open 23 = .ok (.getfield 7, 3) := by decide +kernel
theorem d_Model_open_26 : decode b_Model_open 26 = .ok (.ifCond .ne 5, 3) := by decide +kernel
theorem d_Model_open_29 : decode b_Model_open 29 = .ok (.iconst 0, 1) := by decide +kernel
theorem d_Model_open_30 : decode b_Model_open 30 = .ok (.ireturn, 1) := by decide +kernel
theorem d_Model_open_31 : decode b_Model_open 31 = .ok (.aload_n 0, 1) := by decide +kernel
theorem d_Model_open_32 : decode b_Model_open 32 = .ok (.getfield 30, 3) := by decide +kernel
theorem d_Model_open_35 : decode b_Model_open 35 = .ok (.iload_n 1, 1) := by decide +kernel
theorem d_Model_open_36 : decode b_Model_open 36 = .ok (.aaload, 1) := by decide +kernel
theorem d_Model_open_37 : decode b_Model_open 37 = .ok (.astore_n 2, 1) := by decide +kernel
theorem d_Model_open_38 : decode b_Model_open 38 = .ok (.aload_n 2, 1) := by decide +kernel
theorem d_Model_open_39 : decode b_Model_open 39 = .ok (.invokevirtual 269, 3) := by decide +kernel
theorem d_Model_open_42 : decode b_Model_open 42 = .ok (.aload_n 2, 1) := by decide +kernel
theorem d_Model_open_43 : decode b_Model_open 43 = .ok (.iconst 1, 1) := by decide +kernel
theorem d_Model_open_44 : decode b_Model_open 44 = .ok (.putfield 192, 3) := by decide +kernel
theorem d_Model_open_47 : decode b_Model_open 47 = .ok (.aload_n 2, 1) := by decide +kernel
theorem d_Model_open_48 : decode b_Model_open 48 = .ok (.iconst 0, 1) := by decide +kernel
theorem d_Model_open_49 : decode b_Model_open 49 = .ok (.putfield 700, 3) := by decide +kernel
theorem d_Model_open_52 : decode b_Model_open 52 = .ok (.aload_n 2, 1) := by decide +kernel
theorem d_Model_open_53 : decode b_Model_open 53 = .ok (.iconst 0, 1) := by decide +kernel
theorem d_Model_open_54 : decode b_Model_open 54 = .ok (.putfield 195, 3) := by decide +kernel
theorem d_Model_open_57 : decode b_Model_open 57 = .ok (.aload_n 2, 1) := by decide +kernel
theorem d_Model_open_58 : decode b_Model_open 58 = .ok (.iconst 0, 1) := by decide +kernel
theorem d_Model_open_59 : decode b_Model_open 59 = .ok (.putfield 198, 3) := by decide +kernel
theorem d_Model_open_62 : decode b_Model_open 62 = .ok (.aload_n 2, 1) := by decide +kernel
theorem d_Model_open_63 : decode b_Model_open 63 = .ok (.iconst 0, 1) := by decide +kernel
theorem d_Model_open_64 : decode b_Model_open 64 = .ok (.putfield 201, 3) := by decide +kernel
theorem d_Model_open_67 : decode b_Model_open 67 = .ok (.iconst 1, 1) := by decide +kernel
theorem d_Model_open_68 : decode b_Model_open 68 = .ok (.ireturn, 1) := by decide +kernel
theorem d_MSession_clear_0 : decode b_MSession_clear 0 = .ok (.aload_n 0, 1) := by decide +kernel
theorem d_MSession_clear_1 : decode b_MSession_clear 1 = .ok (.iconst 0, 1) := by decide +kernel
theorem d_MSession_clear_2 : decode b_MSession_clear 2 = .ok (.putfield 82, 3) := by decide +kernel
theorem d_MSession_clear_5 : decode b_MSession_clear 5 = .ok (.aload_n 0, 1) := by decide +kernel
theorem d_MSession_clear_6 : decode b_MSession_clear 6 = .ok (.iconst 0, 1) := by decide +kernel
theorem d_MSession_clear_7 : decode b_MSession_clear 7 = .ok (.putfield 86, 3) := by decide +kernel
theorem d_MSession_clear_10 : decode b_MSession_clear 10 = .ok (.aload_n 0, 1) := by decide +kernel
theorem d_MSession_clear_11 : decode b_MSession_clear 11 = .ok (.iconst 0, 1) := by decide +kernel
theorem d_MSession_clear_12 : decode b_MSession_clear 12 = .ok (.putfield 89, 3) := by decide +kernel
theorem d_MSession_clear_15 : decode b_MSession_clear 15 = .ok (.aload_n 0, 1) := by decide +kernel
theorem d_MSession_clear_16 : decode b_MSession_clear 16 = .ok (.iconst 0, 1) := by decide +kernel
theorem d_MSession_clear_17 : decode b_MSession_clear 17 = .ok (.putfield 92, 3) := by decide +kernel
theorem d_MSession_clear_20 : decode b_MSession_clear 20 = .ok (.aload_n 0, 1) := by decide +kernel
theorem d_MSession_clear_21 : decode b_MSession_clear 21 = .ok (.iconst (-1), 1) := by decide +kernel
theorem d_MSession_clear_22 : decode b_MSession_clear 22 = .ok (.putfield 7, 3) := by decide +kernel
theorem d_MSession_clear_25 : decode b_MSession_clear 25 = .ok (.aload_n 0, 1) := by decide +kernel
theorem d_MSession_clear_26 : decode b_MSession_clear 26 = .ok (.iconst 0, 1) := by decide +kernel
theorem d_MSession_clear_27 : decode b_MSession_clear 27 = .ok (.putfield 95, 3) := by decide +kernel
theorem d_MSession_clear_30 : decode b_MSession_clear 30 = .ok (.aload_n 0, 1) := by decide +kernel
theorem d_MSession_clear_31 : decode b_MSession_clear 31 = .ok (.iconst 0, 1) := by decide +kernel
theorem d_MSession_clear_32 : decode b_MSession_clear 32 = .ok (.putfield 98, 3) := by decide +kernel
theorem d_MSession_clear_35 : decode b_MSession_clear 35 = .ok (.aload_n 0, 1) := by decide +kernel
theorem d_MSession_clear_36 : decode b_MSession_clear 36 = .ok (.getfield 13, 3) := by decide +kernel
theorem d_MSession_clear_39 : decode b_MSession_clear 39 = .ok (.iconst 0, 1) := by decide +kernel
theorem d_MSession_clear_40 : decode b_MSession_clear 40 = .ok (.iconst 0, 1) := by decide +kernel
theorem d_MSession_clear_41 : decode b_MSession_clear 41 = .ok (.iastore, 1) := by decide +kernel
theorem d_MSession_clear_42 : decode b_MSession_clear 42 = .ok (.return_, 1) := by decide +kernel
theorem d_Model_close_0 : decode b_Model_close 0 = .ok (.aload_n 0, 1) := by decide +kernel
theorem d_Model_close_1 : decode b_Model_close 1 = .ok (.iload_n 1, 1) := by decide +kernel
theorem d_Model_close_2 : decode b_Model_close 2 = .ok (.invokevirtual 905, 3) := by decide +kernel
theorem d_Model_close_5 : decode b_Model_close 5 = .ok (.ifCond .ne 5, 3) := by decide +kernel
theorem d_Model_close_8 : decode b_Model_close 8 = .ok (.iconst 0, 1) := by decide +kernel
theorem d_Model_close_9 : decode b_Model_close 9 = .ok (.ireturn, 1) := by decide +kernel
theorem d_Model_isOpen_0 : decode b_Model_isOpen 0 = .ok (.iload_n 1, 1) := by decide +kernel
theorem d_Model_isOpen_1 : decode b_Model_isOpen 1 = .ok (.ifCond .lt 25, 3) := by decide +kernel
theorem d_Model_isOpen_4 : decode b_Model_isOpen 4 = .ok (.iload_n 1, 1) := by decide +kernel
theorem d_Model_isOpen_5 : decode b_Model_isOpen 5 = .ok (.bipush 6, 2) := by decide +kernel
theorem d_Model_isOpen_7 : decode b_Model_isOpen 7 = .ok (.if_icmp .ge 19, 3) := by decide +kernel
theorem d_Model_isOpen_10 : decode b_Model_isOpen 10 = .ok (.aload_n 0, 1) := by decide +kernel
theorem d_Model_isOpen_11 : decode b_Model_isOpen 11 = .ok (.getfield 30, 3) := by decide +kernel
theorem d_Model_isOpen_14 : decode b_Model_isOpen 14 = .ok (.iload_n 1, 1) := by decide +kernel
theorem d_Model_isOpen_15 : decode b_Model_isOpen 15 = .ok (.aaload, 1) := by decide +kernel
theorem d_Model_isOpen_16 : decode b_Model_isOpen 16 = .ok (.getfield 192, 3) := by decide +kernel
theorem d_Model_isOpen_19 : decode b_Model_isOpen 19 = .ok (.ifCond .eq 7, 3) := by decide +kernel
theorem d_Model_isOpen_26 : decode b_Model_isOpen 26 = .ok (.iconst 0, 1) := by decide +kernel
theorem d_Model_isOpen_27 : decode b_Model_isOpen 27 = .ok (.ireturn, 1) := by decide +kernel
theorem d_Model_send_0 : decode b_Model_send 0 = .ok (.aload_n 0, 1) := by decide +kernel
theorem d_Model_send_1 : decode b_Model_send 1 = .ok (.iload_n 1, 1) := by decide +kernel
theorem d_Model_send_2 : decode b_Model_send 2 = .ok (.invokevirtual 905, 3) := by decide +kernel
theorem d_Model_send_5 : decode b_Model_send 5 = .ok (.ifCond .eq 28, 3) := by decide +kernel
theorem d_Model_send_33 : decode b_Model_send 33 = .ok (.iconst 0, 1) := by decide +kernel
theorem d_Model_send_34 : decode b_Model_send 34 = .ok (.ireturn, 1) := by decide +kernel
theorem d_MCatalog_tables_0 : decode b_MCatalog_tables 0 = .ok (.iconst 0, 1) := by decide +kernel
theorem d_MCatalog_tables_1 : decode b_MCatalog_tables 1 = .ok (.istore_n 1, 1) := by decide +kernel
theorem d_MCatalog_tables_2 : decode b_MCatalog_tables 2 = .ok (.iconst 0, 1) := by decide +kernel
theorem d_MCatalog_tables_3 : decode b_MCatalog_tables 3 = .ok (.istore_n 2, 1) := by decide +kernel
theorem d_MCatalog_tables_4 : decode b_MCatalog_tables 4 = .ok (.iload_n 2, 1) := by decide +kernel
theorem d_MCatalog_tables_5 : decode b_MCatalog_tables 5 = .ok (.bipush 8, 2) := by decide +kernel
theorem d_MCatalog_tables_7 : decode b_MCatalog_tables 7 = .ok (.if_icmp .ge 26, 3) := by decide +kernel
theorem d_MCatalog_tables_10 : decode b_MCatalog_tables 10 = .ok (.aload_n 0, 1) := by decide +kernel
theorem d_MCatalog_tables_11 : decode b_MCatalog_tables 11 = .ok (.getfield 9, 3) := by decide +kernel
theorem d_MCatalog_tables_14 : decode b_MCatalog_tables 14 = .ok (.iload_n 2, 1) := by decide +kernel
theorem d_MCatalog_tables_15 : decode b_MCatalog_tables 15 = .ok (.iaload, 1) := by decide +kernel
theorem d_MCatalog_tables_16 : decode b_MCatalog_tables 16 = .ok (.ifCond .le 9, 3) := by decide +kernel
theorem d_MCatalog_tables_25 : decode b_MCatalog_tables 25 = .ok (.iload_n 1, 1) := by decide +kernel
theorem d_MCatalog_tables_26 : decode b_MCatalog_tables 26 = .ok (.istore_n 1, 1) := by decide +kernel
theorem d_MCatalog_tables_27 : decode b_MCatalog_tables 27 = .ok (.iinc 2 1, 3) := by decide +kernel
theorem d_MCatalog_tables_30 : decode b_MCatalog_tables 30 = .ok (.goto (-26), 3) := by decide +kernel
theorem d_MCatalog_tables_33 : decode b_MCatalog_tables 33 = .ok (.iload_n 1, 1) := by decide +kernel
theorem d_MCatalog_tables_34 : decode b_MCatalog_tables 34 = .ok (.ireturn, 1) := by decide +kernel
theorem d_Model_fetch_0 : decode b_Model_fetch 0 = .ok (.aload_n 0, 1) := by decide +kernel
theorem d_Model_fetch_1 : decode b_Model_fetch 1 = .ok (.iload_n 1, 1) := by decide +kernel
theorem d_Model_fetch_2 : decode b_Model_fetch 2 = .ok (.invokevirtual 905, 3) := by decide +kernel
theorem d_Model_fetch_5 : decode b_Model_fetch 5 = .ok (.ifCond .eq 15, 3) := by decide +kernel
theorem d_Model_fetch_20 : decode b_Model_fetch 20 = .ok (.lconst 0, 1) := by decide +kernel
theorem d_Model_fetch_21 : decode b_Model_fetch 21 = .ok (.lreturn, 1) := by decide +kernel
theorem d_Model_cancel_0 : decode b_Model_cancel 0 = .ok (.aload_n 0, 1) := by decide +kernel
theorem d_Model_cancel_1 : decode b_Model_cancel 1 = .ok (.iload_n 1, 1) := by decide +kernel
theorem d_Model_cancel_2 : decode b_Model_cancel 2 = .ok (.invokevirtual 905, 3) := by decide +kernel
theorem d_Model_cancel_5 : decode b_Model_cancel 5 = .ok (.ifCond .eq 15, 3) := by decide +kernel
theorem d_Model_cancel_20 : decode b_Model_cancel 20 = .ok (.iconst 0, 1) := by decide +kernel
theorem d_Model_cancel_21 : decode b_Model_cancel 21 = .ok (.ireturn, 1) := by decide +kernel
theorem d_Model_charge_0 : decode b_Model_charge 0 = .ok (.iload_n 1, 1) := by decide +kernel
theorem d_Model_charge_1 : decode b_Model_charge 1 = .ok (.ifCond .lt 17, 3) := by decide +kernel
theorem d_Model_charge_4 : decode b_Model_charge 4 = .ok (.iload_n 1, 1) := by decide +kernel
theorem d_Model_charge_5 : decode b_Model_charge 5 = .ok (.sipush 999, 3) := by decide +kernel
theorem d_Model_charge_8 : decode b_Model_charge 8 = .ok (.if_icmp .gt 10, 3) := by decide +kernel
theorem d_Model_charge_11 : decode b_Model_charge 11 = .ok (.aload_n 0, 1) := by decide +kernel
theorem d_Model_charge_12 : decode b_Model_charge 12 = .ok (.getfield 7, 3) := by decide +kernel
theorem d_Model_charge_15 : decode b_Model_charge 15 = .ok (.ifCond .ne 5, 3) := by decide +kernel
theorem d_Model_charge_18 : decode b_Model_charge 18 = .ok (.iconst 0, 1) := by decide +kernel
theorem d_Model_charge_19 : decode b_Model_charge 19 = .ok (.ireturn, 1) := by decide +kernel
theorem d_Model_charge_20 : decode b_Model_charge 20 = .ok (.aload_n 0, 1) := by decide +kernel
theorem d_Model_charge_21 : decode b_Model_charge 21 = .ok (.iload_n 1, 1) := by decide +kernel
theorem d_Model_charge_22 : decode b_Model_charge 22 = .ok (.putfield 13, 3) := by decide +kernel
theorem d_Model_charge_25 : decode b_Model_charge 25 = .ok (.iconst 1, 1) := by decide +kernel
theorem d_Model_charge_26 : decode b_Model_charge 26 = .ok (.ireturn, 1) := by decide +kernel
theorem d_Model_start_0 : decode b_Model_start 0 = .ok (.aload_n 0, 1) := by decide +kernel
theorem d_Model_start_1 : decode b_Model_start 1 = .ok (.getfield 7, 3) := by decide +kernel
theorem d_Model_start_4 : decode b_Model_start 4 = .ok (.ifCond .eq 5, 3) := by decide +kernel
theorem d_Model_start_7 : decode b_Model_start 7 = .ok (.iconst 0, 1) := by decide +kernel
theorem d_Model_start_8 : decode b_Model_start 8 = .ok (.ireturn, 1) := by decide +kernel
theorem d_Model_state_0 : decode b_Model_state 0 = .ok (.iload_n 1, 1) := by decide +kernel
theorem d_Model_state_1 : decode b_Model_state 1 = .ok (.ifCond .lt 9, 3) := by decide +kernel
theorem d_Model_state_4 : decode b_Model_state 4 = .ok (.iload_n 1, 1) := by decide +kernel
theorem d_Model_state_5 : decode b_Model_state 5 = .ok (.bipush 6, 2) := by decide +kernel
theorem d_Model_state_7 : decode b_Model_state 7 = .ok (.if_icmp .lt 5, 3) := by decide +kernel
theorem d_Model_state_10 : decode b_Model_state 10 = .ok (.iconst (-1), 1) := by decide +kernel
theorem d_Model_state_11 : decode b_Model_state 11 = .ok (.ireturn, 1) := by decide +kernel
