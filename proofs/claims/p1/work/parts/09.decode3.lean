theorem d_Server_open_26 : decode b_Server_open 26 = .ok (.iconst 0, 1) := by decide +kernel
theorem d_Server_open_27 : decode b_Server_open 27 = .ok (.ireturn, 1) := by decide +kernel
theorem d_Server_open_28 : decode b_Server_open 28 = .ok (.aload_n 0, 1) := by decide +kernel
theorem d_Server_open_29 : decode b_Server_open 29 = .ok (.getfield 15, 3) := by decide +kernel
theorem d_Server_open_32 : decode b_Server_open 32 = .ok (.iload_n 1, 1) := by decide +kernel
theorem d_Server_open_33 : decode b_Server_open 33 = .ok (.aaload, 1) := by decide +kernel
theorem d_Server_open_34 : decode b_Server_open 34 = .ok (.invokevirtual 95, 3) := by decide +kernel
theorem d_Server_open_37 : decode b_Server_open 37 = .ok (.aload_n 0, 1) := by decide +kernel
theorem d_Server_open_38 : decode b_Server_open 38 = .ok (.getfield 15, 3) := by decide +kernel
theorem d_Server_open_41 : decode b_Server_open 41 = .ok (.iload_n 1, 1) := by decide +kernel
theorem d_Server_open_42 : decode b_Server_open 42 = .ok (.aaload, 1) := by decide +kernel
theorem d_Server_open_43 : decode b_Server_open 43 = .ok (.iconst 1, 1) := by decide +kernel
theorem d_Server_open_44 : decode b_Server_open 44 = .ok (.putfield 92, 3) := by decide +kernel
theorem d_Server_open_47 : decode b_Server_open 47 = .ok (.iconst 1, 1) := by decide +kernel
theorem d_Server_open_48 : decode b_Server_open 48 = .ok (.ireturn, 1) := by decide +kernel
theorem d_Server_isSession_0 : decode b_Server_isSession 0 = .ok (.iload_n 0, 1) := by decide +kernel
theorem d_Server_isSession_1 : decode b_Server_isSession 1 = .ok (.ifCond .lt 13, 3) := by decide +kernel
theorem d_Server_isSession_4 : decode b_Server_isSession 4 = .ok (.iload_n 0, 1) := by decide +kernel
theorem d_Server_isSession_5 : decode b_Server_isSession 5 = .ok (.bipush 6, 2) := by decide +kernel
theorem d_Server_isSession_7 : decode b_Server_isSession 7 = .ok (.if_icmp .ge 7, 3) := by decide +kernel
theorem d_Server_isSession_10 : decode b_Server_isSession 10 = .ok (.iconst 1, 1) := by decide +kernel
theorem d_Server_isSession_11 : decode b_Server_isSession 11 = .ok (.goto 4, 3) := by decide +kernel
theorem d_Server_isSession_14 : decode b_Server_isSession 14 = .ok (.iconst 0, 1) := by decide +kernel
theorem d_Server_isSession_15 : decode b_Server_isSession 15 = .ok (.ireturn, 1) := by decide +kernel
theorem d_SSession_reset_0 : decode b_SSession_reset 0 = .ok (.aload_n 0, 1) := by decide +kernel
theorem d_SSession_reset_1 : decode b_SSession_reset 1 = .ok (.invokevirtual 62, 3) := by decide +kernel
theorem d_SSession_reset_4 : decode b_SSession_reset 4 = .ok (.aload_n 0, 1) := by decide +kernel
theorem d_SSession_reset_5 : decode b_SSession_reset 5 = .ok (.iconst 0, 1) := by decide +kernel
theorem d_SSession_reset_6 : decode b_SSession_reset 6 = .ok (.putfield 65, 3) := by decide +kernel
theorem d_SSession_reset_9 : decode b_SSession_reset 9 = .ok (.aload_n 0, 1) := by decide +kernel
theorem d_SSession_reset_10 : decode b_SSession_reset 10 = .ok (.iconst 1, 1) := by decide +kernel
theorem d_SSession_reset_11 : decode b_SSession_reset 11 = .ok (.putfield 49, 3) := by decide +kernel
theorem d_SSession_reset_14 : decode b_SSession_reset 14 = .ok (.aload_n 0, 1) := by decide +kernel
theorem d_SSession_reset_15 : decode b_SSession_reset 15 = .ok (.iconst 0, 1) := by decide +kernel
theorem d_SSession_reset_16 : decode b_SSession_reset 16 = .ok (.putfield 69, 3) := by decide +kernel
theorem d_SSession_reset_19 : decode b_SSession_reset 19 = .ok (.aload_n 0, 1) := by decide +kernel
theorem d_SSession_reset_20 : decode b_SSession_reset 20 = .ok (.getfield 21, 3) := by decide +kernel
theorem d_SSession_reset_23 : decode b_SSession_reset 23 = .ok (.invokevirtual 72, 3) := by decide +kernel
theorem d_SSession_reset_26 : decode b_SSession_reset 26 = .ok (.aload_n 0, 1) := by decide +kernel
theorem d_SSession_reset_27 : decode b_SSession_reset 27 = .ok (.getfield 35, 3) := by decide +kernel
theorem d_SSession_reset_30 : decode b_SSession_reset 30 = .ok (.iconst 0, 1) := by decide +kernel
theorem d_SSession_reset_31 : decode b_SSession_reset 31 = .ok (.invokestatic 75, 3) := by decide +kernel
theorem d_SSession_reset_34 : decode b_SSession_reset 34 = .ok (.return_, 1) := by decide +kernel
theorem d_SSession_endTransaction_0 : decode b_SSession_endTransaction 0 = .ok (.aload_n 0, 1) := by decide +kernel
theorem d_SSession_endTransaction_1 : decode b_SSession_endTransaction 1 = .ok (.iconst 0, 1) := by decide +kernel
theorem d_SSession_endTransaction_2 : decode b_SSession_endTransaction 2 = .ok (.invokevirtual 81, 3) := by decide +kernel
theorem d_SSession_endTransaction_5 : decode b_SSession_endTransaction 5 = .ok (.aload_n 0, 1) := by decide +kernel
theorem d_SSession_endTransaction_6 : decode b_SSession_endTransaction 6 = .ok (.iconst 1, 1) := by decide +kernel
theorem d_SSession_endTransaction_7 : decode b_SSession_endTransaction 7 = .ok (.putfield 53, 3) := by decide +kernel
theorem d_SSession_endTransaction_10 : decode b_SSession_endTransaction 10 = .ok (.aload_n 0, 1) := by decide +kernel
theorem d_SSession_endTransaction_11 : decode b_SSession_endTransaction 11 = .ok (.iconst 0, 1) := by decide +kernel
theorem d_SSession_endTransaction_12 : decode b_SSession_endTransaction 12 = .ok (.putfield 85, 3) := by decide +kernel
theorem d_SSession_endTransaction_15 : decode b_SSession_endTransaction 15 = .ok (.aload_n 0, 1) := by decide +kernel
theorem d_SSession_endTransaction_16 : decode b_SSession_endTransaction 16 = .ok (.iconst 0, 1) := by decide +kernel
theorem d_SSession_endTransaction_17 : decode b_SSession_endTransaction 17 = .ok (.putfield 88, 3) := by decide +kernel
theorem d_SSession_endTransaction_20 : decode b_SSession_endTransaction 20 = .ok (.aload_n 0, 1) := by decide +kernel
theorem d_SSession_endTransaction_21 : decode b_SSession_endTransaction 21 = .ok (.iconst (-1), 1) := by decide +kernel
theorem d_SSession_endTransaction_22 : decode b_SSession_endTransaction 22 = .ok (.putfield 56, 3) := by decide +kernel
theorem d_SSession_endTransaction_25 : decode b_SSession_endTransaction 25 = .ok (.return_, 1) := by decide +kernel
theorem d_SSession_clearLevels_0 : decode b_SSession_clearLevels 0 = .ok (.iload_n 1, 1) := by decide +kernel
theorem d_SSession_clearLevels_1 : decode b_SSession_clearLevels 1 = .ok (.istore_n 2, 1) := by decide +kernel
theorem d_SSession_clearLevels_2 : decode b_SSession_clearLevels 2 = .ok (.iload_n 2, 1) := by decide +kernel
theorem d_SSession_clearLevels_3 : decode b_SSession_clearLevels 3 = .ok (.bipush 8, 2) := by decide +kernel
theorem d_SSession_clearLevels_5 : decode b_SSession_clearLevels 5 = .ok (.if_icmp .ge 42, 3) := by decide +kernel
theorem d_SSession_clearLevels_8 : decode b_SSession_clearLevels 8 = .ok (.aload_n 0, 1) := by decide +kernel
theorem d_SSession_clearLevels_9 : decode b_SSession_clearLevels 9 = .ok (.getfield 29, 3) := by decide +kernel
theorem d_SSession_clearLevels_12 : decode b_SSession_clearLevels 12 = .ok (.iload_n 2, 1) := by decide +kernel
theorem d_SSession_clearLevels_13 : decode b_SSession_clearLevels 13 = .ok (.iconst 0, 1) := by decide +kernel
theorem d_SSession_clearLevels_14 : decode b_SSession_clearLevels 14 = .ok (.iastore, 1) := by decide +kernel
theorem d_SSession_clearLevels_15 : decode b_SSession_clearLevels 15 = .ok (.iconst 0, 1) := by decide +kernel
theorem d_SSession_clearLevels_16 : decode b_SSession_clearLevels 16 = .ok (.istore_n 3, 1) := by decide +kernel
theorem d_SSession_clearLevels_17 : decode b_SSession_clearLevels 17 = .ok (.iload_n 3, 1) := by decide +kernel
theorem d_SSession_clearLevels_18 : decode b_SSession_clearLevels 18 = .ok (.bipush 8, 2) := by decide +kernel
theorem d_SSession_clearLevels_20 : decode b_SSession_clearLevels 20 = .ok (.if_icmp .ge 21, 3) := by decide +kernel
theorem d_SSession_clearLevels_23 : decode b_SSession_clearLevels 23 = .ok (.aload_n 0, 1) := by decide +kernel
theorem d_SSession_clearLevels_24 : decode b_SSession_clearLevels 24 = .ok (.getfield 32, 3) := by decide +kernel
theorem d_SSession_clearLevels_27 : decode b_SSession_clearLevels 27 = .ok (.iload_n 2, 1) := by decide +kernel
theorem d_SSession_clearLevels_28 : decode b_SSession_clearLevels 28 = .ok (.bipush 8, 2) := by decide +kernel
theorem d_SSession_clearLevels_30 : decode b_SSession_clearLevels 30 = .ok (.imul, 1) := by decide +kernel
theorem d_SSession_clearLevels_31 : decode b_SSession_clearLevels 31 = .ok (.iload_n 3, 1) := by decide +kernel
theorem d_SSession_clearLevels_32 : decode b_SSession_clearLevels 32 = .ok (.iadd, 1) := by decide +kernel
theorem d_SSession_clearLevels_33 : decode b_SSession_clearLevels 33 = .ok (.iconst 0, 1) := by decide +kernel
theorem d_SSession_clearLevels_34 : decode b_SSession_clearLevels 34 = .ok (.iastore, 1) := by decide +kernel
theorem d_SSession_clearLevels_35 : decode b_SSession_clearLevels 35 = .ok (.iinc 3 1, 3) := by decide +kernel
theorem d_SSession_clearLevels_38 : decode b_SSession_clearLevels 38 = .ok (.goto (-21), 3) := by decide +kernel
theorem d_SSession_clearLevels_41 : decode b_SSession_clearLevels 41 = .ok (.iinc 2 1, 3) := by decide +kernel
theorem d_SSession_clearLevels_44 : decode b_SSession_clearLevels 44 = .ok (.goto (-42), 3) := by decide +kernel
theorem d_SSession_clearLevels_47 : decode b_SSession_clearLevels 47 = .ok (.aload_n 0, 1) := by decide +kernel
theorem d_SSession_clearLevels_48 : decode b_SSession_clearLevels 48 = .ok (.iload_n 1, 1) := by decide +kernel
theorem d_SSession_clearLevels_49 : decode b_SSession_clearLevels 49 = .ok (.putfield 91, 3) := by decide +kernel
theorem d_SSession_clearLevels_52 : decode b_SSession_clearLevels 52 = .ok (.return_, 1) := by decide +kernel
theorem d_SWork_clear_0 : decode b_SWork_clear 0 = .ok (.aload_n 0, 1) := by decide +kernel
theorem d_SWork_clear_1 : decode b_SWork_clear 1 = .ok (.iconst 0, 1) := by decide +kernel
theorem d_SWork_clear_2 : decode b_SWork_clear 2 = .ok (.putfield 29, 3) := by decide +kernel
theorem d_SWork_clear_5 : decode b_SWork_clear 5 = .ok (.aload_n 0, 1) := by decide +kernel
theorem d_SWork_clear_6 : decode b_SWork_clear 6 = .ok (.iconst 0, 1) := by decide +kernel
theorem d_SWork_clear_7 : decode b_SWork_clear 7 = .ok (.putfield 33, 3) := by decide +kernel
theorem d_SWork_clear_10 : decode b_SWork_clear 10 = .ok (.aload_n 0, 1) := by decide +kernel
theorem d_SWork_clear_11 : decode b_SWork_clear 11 = .ok (.iconst 0, 1) := by decide +kernel
theorem d_SWork_clear_12 : decode b_SWork_clear 12 = .ok (.putfield 36, 3) := by decide +kernel
theorem d_SWork_clear_15 : decode b_SWork_clear 15 = .ok (.aload_n 0, 1) := by decide +kernel
theorem d_SWork_clear_16 : decode b_SWork_clear 16 = .ok (.iconst 0, 1) := by decide +kernel
theorem d_SWork_clear_17 : decode b_SWork_clear 17 = .ok (.putfield 40, 3) := by decide +kernel
theorem d_SWork_clear_20 : decode b_SWork_clear 20 = .ok (.aload_n 0, 1) := by decide +kernel
theorem d_SWork_clear_21 : decode b_SWork_clear 21 = .ok (.iconst 0, 1) := by decide +kernel
theorem d_SWork_clear_22 : decode b_SWork_clear 22 = .ok (.putfield 43, 3) := by decide +kernel
theorem d_SWork_clear_25 : decode b_SWork_clear 25 = .ok (.aload_n 0, 1) := by decide +kernel
theorem d_SWork_clear_26 : decode b_SWork_clear 26 = .ok (.iconst 0, 1) := by decide +kernel
theorem d_SWork_clear_27 : decode b_SWork_clear 27 = .ok (.putfield 46, 3) := by decide +kernel
theorem d_SWork_clear_30 : decode b_SWork_clear 30 = .ok (.aload_n 0, 1) := by decide +kernel
theorem d_SWork_clear_31 : decode b_SWork_clear 31 = .ok (.iconst 0, 1) := by decide +kernel
theorem d_SWork_clear_32 : decode b_SWork_clear 32 = .ok (.putfield 49, 3) := by decide +kernel
theorem d_SWork_clear_35 : decode b_SWork_clear 35 = .ok (.aload_n 0, 1) := by decide +kernel
theorem d_SWork_clear_36 : decode b_SWork_clear 36 = .ok (.iconst 0, 1) := by decide +kernel
theorem d_SWork_clear_37 : decode b_SWork_clear 37 = .ok (.putfield 52, 3) := by decide +kernel
theorem d_SWork_clear_40 : decode b_SWork_clear 40 = .ok (.return_, 1) := by decide +kernel
theorem d_JArrays_fill0_0 : decode b_JArrays_fill0 0 = .ok (.iconst 0, 1) := by decide +kernel
theorem d_JArrays_fill0_1 : decode b_JArrays_fill0 1 = .ok (.istore_n 2, 1) := by decide +kernel
theorem d_JArrays_fill0_2 : decode b_JArrays_fill0 2 = .ok (.aload_n 0, 1) := by decide +kernel
theorem d_JArrays_fill0_3 : decode b_JArrays_fill0 3 = .ok (.arraylength, 1) := by decide +kernel
theorem d_JArrays_fill0_4 : decode b_JArrays_fill0 4 = .ok (.istore_n 3, 1) := by decide +kernel
theorem d_JArrays_fill0_5 : decode b_JArrays_fill0 5 = .ok (.iload_n 2, 1) := by decide +kernel
theorem d_JArrays_fill0_6 : decode b_JArrays_fill0 6 = .ok (.iload_n 3, 1) := by decide +kernel
theorem d_JArrays_fill0_7 : decode b_JArrays_fill0 7 = .ok (.if_icmp .ge 13, 3) := by decide +kernel
theorem d_JArrays_fill0_10 : decode b_JArrays_fill0 10 = .ok (.aload_n 0, 1) := by decide +kernel
theorem d_JArrays_fill0_11 : decode b_JArrays_fill0 11 = .ok (.iload_n 2, 1) := by decide +kernel
theorem d_JArrays_fill0_12 : decode b_JArrays_fill0 12 = .ok (.iload_n 1, 1) := by decide +kernel
theorem d_JArrays_fill0_13 : decode b_JArrays_fill0 13 = .ok (.iastore, 1) := by decide +kernel
theorem d_JArrays_fill0_14 : decode b_JArrays_fill0 14 = .ok (.iinc 2 1, 3) := by decide +kernel
theorem d_JArrays_fill0_17 : decode b_JArrays_fill0 17 = .ok (.goto (-12), 3) := by decide +kernel
theorem d_JArrays_fill0_20 : decode b_JArrays_fill0 20 = .ok (.return_, 1) := by decide +kernel
theorem d_Server_close_0 : decode b_Server_close 0 = .ok (.iload_n 1, 1) := by decide +kernel
theorem d_Server_close_1 : decode b_Server_close 1 = .ok (.invokestatic 88, 3) := by decide +kernel
theorem d_Server_close_4 : decode b_Server_close 4 = .ok (.ifCond .eq 15, 3) := by decide +kernel
theorem d_Server_close_7 : decode b_Server_close 7 = .ok (.aload_n 0, 1) := by decide +kernel
theorem d_Server_close_8 : decode b_Server_close 8 = .ok (.getfield 15, 3) := by decide +kernel
theorem d_Server_close_11 : decode b_Server_close 11 = .ok (.iload_n 1, 1) := by decide +kernel
theorem d_Server_close_12 : decode b_Server_close 12 = .ok (.aaload, 1) := by decide +kernel
theorem d_Server_close_13 : decode b_Server_close 13 = .ok (.getfield 92, 3) := by decide +kernel
theorem d_Server_close_16 : decode b_Server_close 16 = .ok (.ifCond .ne 5, 3) := by decide +kernel
theorem d_Server_close_19 : decode b_Server_close 19 = .ok (.iconst 0, 1) := by decide +kernel
theorem d_Server_close_20 : decode b_Server_close 20 = .ok (.ireturn, 1) := by decide +kernel
theorem d_SStore_tablesThere_0 : decode b_SStore_tablesThere 0 = .ok (.iconst 0, 1) := by decide +kernel
theorem d_SStore_tablesThere_1 : decode b_SStore_tablesThere 1 = .ok (.istore_n 1, 1) := by decide +kernel
theorem d_SStore_tablesThere_2 : decode b_SStore_tablesThere 2 = .ok (.iconst 0, 1) := by decide +kernel
theorem d_SStore_tablesThere_3 : decode b_SStore_tablesThere 3 = .ok (.istore_n 2, 1) := by decide +kernel
theorem d_SStore_tablesThere_4 : decode b_SStore_tablesThere 4 = .ok (.iload_n 2, 1) := by decide +kernel
theorem d_SStore_tablesThere_5 : decode b_SStore_tablesThere 5 = .ok (.bipush 8, 2) := by decide +kernel
theorem d_SStore_tablesThere_7 : decode b_SStore_tablesThere 7 = .ok (.if_icmp .ge 29, 3) := by decide +kernel
theorem d_SStore_tablesThere_10 : decode b_SStore_tablesThere 10 = .ok (.iload_n 1, 1) := by decide +kernel
theorem d_SStore_tablesThere_11 : decode b_SStore_tablesThere 11 = .ok (.aload_n 0, 1) := by decide +kernel
theorem d_SStore_tablesThere_12 : decode b_SStore_tablesThere 12 = .ok (.getfield 11, 3) := by decide +kernel
theorem d_SStore_tablesThere_15 : decode b_SStore_tablesThere 15 = .ok (.iload_n 2, 1) := by decide +kernel
theorem d_SStore_tablesThere_16 : decode b_SStore_tablesThere 16 = .ok (.aaload, 1) := by decide +kernel
theorem d_SStore_tablesThere_17 : decode b_SStore_tablesThere 17 = .ok (.getfield 57, 3) := by decide +kernel
theorem d_SStore_tablesThere_20 : decode b_SStore_tablesThere 20 = .ok (.ifCond .eq 7, 3) := by decide +kernel
theorem d_SStore_tablesThere_27 : decode b_SStore_tablesThere 27 = .ok (.iconst 0, 1) := by decide +kernel
theorem d_SStore_tablesThere_28 : decode b_SStore_tablesThere 28 = .ok (.iadd, 1) := by decide +kernel
theorem d_SStore_tablesThere_29 : decode b_SStore_tablesThere 29 = .ok (.istore_n 1, 1) := by decide +kernel
theorem d_SStore_tablesThere_30 : decode b_SStore_tablesThere 30 = .ok (.iinc 2 1, 3) := by decide +kernel
theorem d_SStore_tablesThere_33 : decode b_SStore_tablesThere 33 = .ok (.goto (-29), 3) := by decide +kernel
theorem d_SStore_tablesThere_36 : decode b_SStore_tablesThere 36 = .ok (.iload_n 1, 1) := by decide +kernel
theorem d_SStore_tablesThere_37 : decode b_SStore_tablesThere 37 = .ok (.ireturn, 1) := by decide +kernel
theorem d_Server_send_0 : decode b_Server_send 0 = .ok (.iload_n 1, 1) := by decide +kernel
theorem d_Server_send_1 : decode b_Server_send 1 = .ok (.invokestatic 88, 3) := by decide +kernel
theorem d_Server_send_4 : decode b_Server_send 4 = .ok (.ifCond .eq 16, 3) := by decide +kernel
theorem d_Server_send_7 : decode b_Server_send 7 = .ok (.iload_n 2, 1) := by decide +kernel
theorem d_Server_send_8 : decode b_Server_send 8 = .ok (.iconst 1, 1) := by decide +kernel
theorem d_Server_send_9 : decode b_Server_send 9 = .ok (.if_icmp .lt 11, 3) := by decide +kernel
theorem d_Server_send_12 : decode b_Server_send 12 = .ok (.iload_n 2, 1) := by decide +kernel
theorem d_Server_send_13 : decode b_Server_send 13 = .ok (.aload_n 0, 1) := by decide +kernel
theorem d_Server_send_14 : decode b_Server_send 14 = .ok (.getfield 81, 3) := by decide +kernel
theorem d_Server_send_17 : decode b_Server_send 17 = .ok (.if_icmp .le 5, 3) := by decide +kernel
theorem d_Server_send_20 : decode b_Server_send 20 = .ok (.iconst 0, 1) := by decide +kernel
theorem d_Server_send_21 : decode b_Server_send 21 = .ok (.ireturn, 1) := by decide +kernel
theorem d_Server_fetch_0 : decode b_Server_fetch 0 = .ok (.iload_n 1, 1) := by decide +kernel
theorem d_Server_fetch_1 : decode b_Server_fetch 1 = .ok (.invokestatic 88, 3) := by decide +kernel
theorem d_Server_fetch_4 : decode b_Server_fetch 4 = .ok (.ifCond .eq 27, 3) := by decide +kernel
theorem d_Server_fetch_7 : decode b_Server_fetch 7 = .ok (.aload_n 0, 1) := by decide +kernel
theorem d_Server_fetch_8 : decode b_Server_fetch 8 = .ok (.getfield 15, 3) := by decide +kernel
theorem d_Server_fetch_11 : decode b_Server_fetch 11 = .ok (.iload_n 1, 1) := by decide +kernel
theorem d_Server_fetch_12 : decode b_Server_fetch 12 = .ok (.aaload, 1) := by decide +kernel
theorem d_Server_fetch_13 : decode b_Server_fetch 13 = .ok (.getfield 92, 3) := by decide +kernel
theorem d_Server_fetch_16 : decode b_Server_fetch 16 = .ok (.ifCond .eq 15, 3) := by decide +kernel
theorem d_Server_fetch_31 : decode b_Server_fetch 31 = .ok (.lconst 0, 1) := by decide +kernel
theorem d_Server_fetch_32 : decode b_Server_fetch 32 = .ok (.lreturn, 1) := by decide +kernel
theorem d_Server_cancel_0 : decode b_Server_cancel 0 = .ok (.iload_n 1, 1) := by decide +kernel
theorem d_Server_cancel_1 : decode b_Server_cancel 1 = .ok (.invokestatic 88, 3) := by decide +kernel
theorem d_Server_cancel_4 : decode b_Server_cancel 4 = .ok (.ifCond .eq 15, 3) := by decide +kernel
theorem d_Server_cancel_7 : decode b_Server_cancel 7 = .ok (.aload_n 0, 1) := by decide +kernel
theorem d_Server_cancel_8 : decode b_Server_cancel 8 = .ok (.getfield 15, 3) := by decide +kernel
theorem d_Server_cancel_11 : decode b_Server_cancel 11 = .ok (.iload_n 1, 1) := by decide +kernel
theorem d_Server_cancel_12 : decode b_Server_cancel 12 = .ok (.aaload, 1) := by decide +kernel
theorem d_Server_cancel_13 : decode b_Server_cancel 13 = .ok (.getfield 110, 3) := by decide +kernel
theorem d_Server_cancel_16 : decode b_Server_cancel 16 = .ok (.ifCond .ne 5, 3) := by decide +kernel
theorem d_Server_cancel_19 : decode b_Server_cancel 19 = .ok (.iconst 0, 1) := by decide +kernel
theorem d_Server_cancel_20 : decode b_Server_cancel 20 = .ok (.ireturn, 1) := by decide +kernel
theorem d_Server_charge_0 : decode b_Server_charge 0 = .ok (.aload_n 0, 1) := by decide +kernel
theorem d_Server_charge_1 : decode b_Server_charge 1 = .ok (.getfield 74, 3) := by decide +kernel
theorem d_Server_charge_4 : decode b_Server_charge 4 = .ok (.ifCond .eq 14, 3) := by decide +kernel
