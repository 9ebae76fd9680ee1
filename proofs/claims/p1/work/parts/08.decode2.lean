theorem d_SSession_init_27 : decode b_SSession_init 27 = .ok (.bipush 8, 2) := by decide +kernel
theorem d_SSession_init_29 : decode b_SSession_init 29 = .ok (.newarray .int, 2) := by decide +kernel
theorem d_SSession_init_31 : decode b_SSession_init 31 = .ok (.putfield 25, 3) := by decide +kernel
theorem d_SSession_init_34 : decode b_SSession_init 34 = .ok (.aload_n 0, 1) := by decide +kernel
theorem d_SSession_init_35 : decode b_SSession_init 35 = .ok (.bipush 8, 2) := by decide +kernel
theorem d_SSession_init_37 : decode b_SSession_init 37 = .ok (.newarray .int, 2) := by decide +kernel
theorem d_SSession_init_39 : decode b_SSession_init 39 = .ok (.putfield 29, 3) := by decide +kernel
theorem d_SSession_init_42 : decode b_SSession_init 42 = .ok (.aload_n 0, 1) := by decide +kernel
theorem d_SSession_init_43 : decode b_SSession_init 43 = .ok (.bipush 64, 2) := by decide +kernel
theorem d_SSession_init_45 : decode b_SSession_init 45 = .ok (.newarray .int, 2) := by decide +kernel
theorem d_SSession_init_47 : decode b_SSession_init 47 = .ok (.putfield 32, 3) := by decide +kernel
theorem d_SSession_init_50 : decode b_SSession_init 50 = .ok (.aload_n 0, 1) := by decide +kernel
theorem d_SSession_init_51 : decode b_SSession_init 51 = .ok (.bipush 8, 2) := by decide +kernel
theorem d_SSession_init_53 : decode b_SSession_init 53 = .ok (.newarray .int, 2) := by decide +kernel
theorem d_SSession_init_55 : decode b_SSession_init 55 = .ok (.putfield 35, 3) := by decide +kernel
theorem d_SSession_init_58 : decode b_SSession_init 58 = .ok (.aload_n 0, 1) := by decide +kernel
theorem d_SSession_init_59 : decode b_SSession_init 59 = .ok (.bipush 8, 2) := by decide +kernel
theorem d_SSession_init_61 : decode b_SSession_init 61 = .ok (.anewarray 38, 3) := by decide +kernel
theorem d_SSession_init_64 : decode b_SSession_init 64 = .ok (.putfield 40, 3) := by decide +kernel
theorem d_SSession_init_67 : decode b_SSession_init 67 = .ok (.aload_n 0, 1) := by decide +kernel
theorem d_SSession_init_68 : decode b_SSession_init 68 = .ok (.bipush 8, 2) := by decide +kernel
theorem d_SSession_init_70 : decode b_SSession_init 70 = .ok (.bipush 10, 2) := by decide +kernel
theorem d_SSession_init_72 : decode b_SSession_init 72 = .ok (.multianewarray 44 2, 4) := by decide +kernel
theorem d_SSession_init_76 : decode b_SSession_init 76 = .ok (.putfield 46, 3) := by decide +kernel
theorem d_SSession_init_79 : decode b_SSession_init 79 = .ok (.aload_n 0, 1) := by decide +kernel
theorem d_SSession_init_80 : decode b_SSession_init 80 = .ok (.iconst 1, 1) := by decide +kernel
theorem d_SSession_init_81 : decode b_SSession_init 81 = .ok (.putfield 49, 3) := by decide +kernel
theorem d_SSession_init_84 : decode b_SSession_init 84 = .ok (.aload_n 0, 1) := by decide +kernel
theorem d_SSession_init_85 : decode b_SSession_init 85 = .ok (.iconst 1, 1) := by decide +kernel
theorem d_SSession_init_86 : decode b_SSession_init 86 = .ok (.putfield 53, 3) := by decide +kernel
theorem d_SSession_init_89 : decode b_SSession_init 89 = .ok (.aload_n 0, 1) := by decide +kernel
theorem d_SSession_init_90 : decode b_SSession_init 90 = .ok (.iconst (-1), 1) := by decide +kernel
theorem d_SSession_init_91 : decode b_SSession_init 91 = .ok (.putfield 56, 3) := by decide +kernel
theorem d_SSession_init_94 : decode b_SSession_init 94 = .ok (.aload_n 0, 1) := by decide +kernel
theorem d_SSession_init_95 : decode b_SSession_init 95 = .ok (.iload_n 1, 1) := by decide +kernel
theorem d_SSession_init_96 : decode b_SSession_init 96 = .ok (.putfield 59, 3) := by decide +kernel
theorem d_SSession_init_99 : decode b_SSession_init 99 = .ok (.return_, 1) := by decide +kernel
theorem d_SStatement_init_0 : decode b_SStatement_init 0 = .ok (.aload_n 0, 1) := by decide +kernel
theorem d_SStatement_init_1 : decode b_SStatement_init 1 = .ok (.invokespecial 3, 3) := by decide +kernel
theorem d_SStatement_init_4 : decode b_SStatement_init 4 = .ok (.aload_n 0, 1) := by decide +kernel
theorem d_SStatement_init_5 : decode b_SStatement_init 5 = .ok (.new 9, 3) := by decide +kernel
theorem d_SStatement_init_8 : decode b_SStatement_init 8 = .ok (.dup, 1) := by decide +kernel
theorem d_SStatement_init_9 : decode b_SStatement_init 9 = .ok (.invokespecial 11, 3) := by decide +kernel
theorem d_SStatement_init_12 : decode b_SStatement_init 12 = .ok (.putfield 12, 3) := by decide +kernel
theorem d_SStatement_init_15 : decode b_SStatement_init 15 = .ok (.aload_n 0, 1) := by decide +kernel
theorem d_SStatement_init_16 : decode b_SStatement_init 16 = .ok (.iconst 4, 1) := by decide +kernel
theorem d_SStatement_init_17 : decode b_SStatement_init 17 = .ok (.newarray .int, 2) := by decide +kernel
theorem d_SStatement_init_19 : decode b_SStatement_init 19 = .ok (.putfield 18, 3) := by decide +kernel
theorem d_SStatement_init_22 : decode b_SStatement_init 22 = .ok (.aload_n 0, 1) := by decide +kernel
theorem d_SStatement_init_23 : decode b_SStatement_init 23 = .ok (.iconst 4, 1) := by decide +kernel
theorem d_SStatement_init_24 : decode b_SStatement_init 24 = .ok (.newarray .int, 2) := by decide +kernel
theorem d_SStatement_init_26 : decode b_SStatement_init 26 = .ok (.putfield 22, 3) := by decide +kernel
theorem d_SStatement_init_29 : decode b_SStatement_init 29 = .ok (.aload_n 0, 1) := by decide +kernel
theorem d_SStatement_init_30 : decode b_SStatement_init 30 = .ok (.iconst 4, 1) := by decide +kernel
theorem d_SStatement_init_31 : decode b_SStatement_init 31 = .ok (.newarray .int, 2) := by decide +kernel
theorem d_SStatement_init_33 : decode b_SStatement_init 33 = .ok (.putfield 25, 3) := by decide +kernel
theorem d_SStatement_init_36 : decode b_SStatement_init 36 = .ok (.aload_n 0, 1) := by decide +kernel
theorem d_SStatement_init_37 : decode b_SStatement_init 37 = .ok (.bipush 8, 2) := by decide +kernel
theorem d_SStatement_init_39 : decode b_SStatement_init 39 = .ok (.newarray .int, 2) := by decide +kernel
theorem d_SStatement_init_41 : decode b_SStatement_init 41 = .ok (.putfield 28, 3) := by decide +kernel
theorem d_SStatement_init_44 : decode b_SStatement_init 44 = .ok (.aload_n 0, 1) := by decide +kernel
theorem d_SStatement_init_45 : decode b_SStatement_init 45 = .ok (.bipush 8, 2) := by decide +kernel
theorem d_SStatement_init_47 : decode b_SStatement_init 47 = .ok (.newarray .int, 2) := by decide +kernel
theorem d_SStatement_init_49 : decode b_SStatement_init 49 = .ok (.putfield 31, 3) := by decide +kernel
theorem d_SStatement_init_52 : decode b_SStatement_init 52 = .ok (.aload_n 0, 1) := by decide +kernel
theorem d_SStatement_init_53 : decode b_SStatement_init 53 = .ok (.sipush 200, 3) := by decide +kernel
theorem d_SStatement_init_56 : decode b_SStatement_init 56 = .ok (.newarray .int, 2) := by decide +kernel
theorem d_SStatement_init_58 : decode b_SStatement_init 58 = .ok (.putfield 34, 3) := by decide +kernel
theorem d_SStatement_init_61 : decode b_SStatement_init 61 = .ok (.aload_n 0, 1) := by decide +kernel
theorem d_SStatement_init_62 : decode b_SStatement_init 62 = .ok (.iconst 4, 1) := by decide +kernel
theorem d_SStatement_init_63 : decode b_SStatement_init 63 = .ok (.newarray .int, 2) := by decide +kernel
theorem d_SStatement_init_65 : decode b_SStatement_init 65 = .ok (.putfield 37, 3) := by decide +kernel
theorem d_SStatement_init_68 : decode b_SStatement_init 68 = .ok (.aload_n 0, 1) := by decide +kernel
theorem d_SStatement_init_69 : decode b_SStatement_init 69 = .ok (.iconst 4, 1) := by decide +kernel
theorem d_SStatement_init_70 : decode b_SStatement_init 70 = .ok (.newarray .int, 2) := by decide +kernel
theorem d_SStatement_init_72 : decode b_SStatement_init 72 = .ok (.putfield 40, 3) := by decide +kernel
theorem d_SStatement_init_75 : decode b_SStatement_init 75 = .ok (.return_, 1) := by decide +kernel
theorem d_SCode_init_0 : decode b_SCode_init 0 = .ok (.aload_n 0, 1) := by decide +kernel
theorem d_SCode_init_1 : decode b_SCode_init 1 = .ok (.invokespecial 3, 3) := by decide +kernel
theorem d_SCode_init_4 : decode b_SCode_init 4 = .ok (.aload_n 0, 1) := by decide +kernel
theorem d_SCode_init_5 : decode b_SCode_init 5 = .ok (.sipush 209, 3) := by decide +kernel
theorem d_SCode_init_8 : decode b_SCode_init 8 = .ok (.newarray .int, 2) := by decide +kernel
theorem d_SCode_init_10 : decode b_SCode_init 10 = .ok (.putfield 11, 3) := by decide +kernel
theorem d_SCode_init_13 : decode b_SCode_init 13 = .ok (.aload_n 0, 1) := by decide +kernel
theorem d_SCode_init_14 : decode b_SCode_init 14 = .ok (.sipush 209, 3) := by decide +kernel
theorem d_SCode_init_17 : decode b_SCode_init 17 = .ok (.newarray .int, 2) := by decide +kernel
theorem d_SCode_init_19 : decode b_SCode_init 19 = .ok (.putfield 15, 3) := by decide +kernel
theorem d_SCode_init_22 : decode b_SCode_init 22 = .ok (.aload_n 0, 1) := by decide +kernel
theorem d_SCode_init_23 : decode b_SCode_init 23 = .ok (.sipush 209, 3) := by decide +kernel
theorem d_SCode_init_26 : decode b_SCode_init 26 = .ok (.newarray .int, 2) := by decide +kernel
theorem d_SCode_init_28 : decode b_SCode_init 28 = .ok (.putfield 18, 3) := by decide +kernel
theorem d_SCode_init_31 : decode b_SCode_init 31 = .ok (.aload_n 0, 1) := by decide +kernel
theorem d_SCode_init_32 : decode b_SCode_init 32 = .ok (.sipush 209, 3) := by decide +kernel
theorem d_SCode_init_35 : decode b_SCode_init 35 = .ok (.newarray .int, 2) := by decide +kernel
theorem d_SCode_init_37 : decode b_SCode_init 37 = .ok (.putfield 21, 3) := by decide +kernel
theorem d_SCode_init_40 : decode b_SCode_init 40 = .ok (.aload_n 0, 1) := by decide +kernel
theorem d_SCode_init_41 : decode b_SCode_init 41 = .ok (.sipush 209, 3) := by decide +kernel
theorem d_SCode_init_44 : decode b_SCode_init 44 = .ok (.newarray .int, 2) := by decide +kernel
theorem d_SCode_init_46 : decode b_SCode_init 46 = .ok (.putfield 24, 3) := by decide +kernel
theorem d_SCode_init_49 : decode b_SCode_init 49 = .ok (.aload_n 0, 1) := by decide +kernel
theorem d_SCode_init_50 : decode b_SCode_init 50 = .ok (.sipush 836, 3) := by decide +kernel
theorem d_SCode_init_53 : decode b_SCode_init 53 = .ok (.newarray .long, 2) := by decide +kernel
theorem d_SCode_init_55 : decode b_SCode_init 55 = .ok (.putfield 27, 3) := by decide +kernel
theorem d_SCode_init_58 : decode b_SCode_init 58 = .ok (.aload_n 0, 1) := by decide +kernel
theorem d_SCode_init_59 : decode b_SCode_init 59 = .ok (.sipush 209, 3) := by decide +kernel
theorem d_SCode_init_62 : decode b_SCode_init 62 = .ok (.newarray .int, 2) := by decide +kernel
theorem d_SCode_init_64 : decode b_SCode_init 64 = .ok (.putfield 31, 3) := by decide +kernel
theorem d_SCode_init_67 : decode b_SCode_init 67 = .ok (.aload_n 0, 1) := by decide +kernel
theorem d_SCode_init_68 : decode b_SCode_init 68 = .ok (.sipush 209, 3) := by decide +kernel
theorem d_SCode_init_71 : decode b_SCode_init 71 = .ok (.newarray .int, 2) := by decide +kernel
theorem d_SCode_init_73 : decode b_SCode_init 73 = .ok (.putfield 34, 3) := by decide +kernel
theorem d_SCode_init_76 : decode b_SCode_init 76 = .ok (.aload_n 0, 1) := by decide +kernel
theorem d_SCode_init_77 : decode b_SCode_init 77 = .ok (.sipush 209, 3) := by decide +kernel
theorem d_SCode_init_80 : decode b_SCode_init 80 = .ok (.newarray .int, 2) := by decide +kernel
theorem d_SCode_init_82 : decode b_SCode_init 82 = .ok (.putfield 37, 3) := by decide +kernel
theorem d_SCode_init_85 : decode b_SCode_init 85 = .ok (.aload_n 0, 1) := by decide +kernel
theorem d_SCode_init_86 : decode b_SCode_init 86 = .ok (.bipush 10, 2) := by decide +kernel
theorem d_SCode_init_88 : decode b_SCode_init 88 = .ok (.newarray .int, 2) := by decide +kernel
theorem d_SCode_init_90 : decode b_SCode_init 90 = .ok (.putfield 40, 3) := by decide +kernel
theorem d_SCode_init_93 : decode b_SCode_init 93 = .ok (.return_, 1) := by decide +kernel
theorem d_SWork_init_0 : decode b_SWork_init 0 = .ok (.aload_n 0, 1) := by decide +kernel
theorem d_SWork_init_1 : decode b_SWork_init 1 = .ok (.invokespecial 3, 3) := by decide +kernel
theorem d_SWork_init_4 : decode b_SWork_init 4 = .ok (.aload_n 0, 1) := by decide +kernel
theorem d_SWork_init_5 : decode b_SWork_init 5 = .ok (.sipush 16384, 3) := by decide +kernel
theorem d_SWork_init_8 : decode b_SWork_init 8 = .ok (.newarray .byte, 2) := by decide +kernel
theorem d_SWork_init_10 : decode b_SWork_init 10 = .ok (.putfield 9, 3) := by decide +kernel
theorem d_SWork_init_13 : decode b_SWork_init 13 = .ok (.aload_n 0, 1) := by decide +kernel
theorem d_SWork_init_14 : decode b_SWork_init 14 = .ok (.sipush 2000, 3) := by decide +kernel
theorem d_SWork_init_17 : decode b_SWork_init 17 = .ok (.newarray .int, 2) := by decide +kernel
theorem d_SWork_init_19 : decode b_SWork_init 19 = .ok (.putfield 15, 3) := by decide +kernel
theorem d_SWork_init_22 : decode b_SWork_init 22 = .ok (.aload_n 0, 1) := by decide +kernel
theorem d_SWork_init_23 : decode b_SWork_init 23 = .ok (.bipush 32, 2) := by decide +kernel
theorem d_SWork_init_25 : decode b_SWork_init 25 = .ok (.newarray .long, 2) := by decide +kernel
theorem d_SWork_init_27 : decode b_SWork_init 27 = .ok (.putfield 19, 3) := by decide +kernel
theorem d_SWork_init_30 : decode b_SWork_init 30 = .ok (.aload_n 0, 1) := by decide +kernel
theorem d_SWork_init_31 : decode b_SWork_init 31 = .ok (.bipush 36, 2) := by decide +kernel
theorem d_SWork_init_33 : decode b_SWork_init 33 = .ok (.newarray .long, 2) := by decide +kernel
theorem d_SWork_init_35 : decode b_SWork_init 35 = .ok (.putfield 23, 3) := by decide +kernel
theorem d_SWork_init_38 : decode b_SWork_init 38 = .ok (.aload_n 0, 1) := by decide +kernel
theorem d_SWork_init_39 : decode b_SWork_init 39 = .ok (.bipush 10, 2) := by decide +kernel
theorem d_SWork_init_41 : decode b_SWork_init 41 = .ok (.newarray .int, 2) := by decide +kernel
theorem d_SWork_init_43 : decode b_SWork_init 43 = .ok (.putfield 26, 3) := by decide +kernel
theorem d_SWork_init_46 : decode b_SWork_init 46 = .ok (.return_, 1) := by decide +kernel
theorem d_Server_feed_0 : decode b_Server_feed 0 = .ok (.aload_n 0, 1) := by decide +kernel
theorem d_Server_feed_1 : decode b_Server_feed 1 = .ok (.getfield 81, 3) := by decide +kernel
theorem d_Server_feed_4 : decode b_Server_feed 4 = .ok (.bipush 20, 2) := by decide +kernel
theorem d_Server_feed_6 : decode b_Server_feed 6 = .ok (.iadd, 1) := by decide +kernel
theorem d_Server_feed_7 : decode b_Server_feed 7 = .ok (.sipush 2000, 3) := by decide +kernel
theorem d_Server_feed_10 : decode b_Server_feed 10 = .ok (.if_icmp .le 5, 3) := by decide +kernel
theorem d_Server_feed_15 : decode b_Server_feed 15 = .ok (.aload_n 0, 1) := by decide +kernel
theorem d_Server_feed_16 : decode b_Server_feed 16 = .ok (.iload_n 1, 1) := by decide +kernel
theorem d_Server_feed_17 : decode b_Server_feed 17 = .ok (.invokevirtual 85, 3) := by decide +kernel
theorem d_Server_feed_20 : decode b_Server_feed 20 = .ok (.aload_n 0, 1) := by decide +kernel
theorem d_Server_feed_21 : decode b_Server_feed 21 = .ok (.iload_n 2, 1) := by decide +kernel
theorem d_Server_feed_22 : decode b_Server_feed 22 = .ok (.invokevirtual 85, 3) := by decide +kernel
theorem d_Server_feed_25 : decode b_Server_feed 25 = .ok (.aload_n 0, 1) := by decide +kernel
theorem d_Server_feed_26 : decode b_Server_feed 26 = .ok (.iload_n 3, 1) := by decide +kernel
theorem d_Server_feed_27 : decode b_Server_feed 27 = .ok (.invokevirtual 85, 3) := by decide +kernel
theorem d_Server_feed_30 : decode b_Server_feed 30 = .ok (.aload_n 0, 1) := by decide +kernel
theorem d_Server_feed_31 : decode b_Server_feed 31 = .ok (.iload 4, 2) := by decide +kernel
theorem d_Server_feed_33 : decode b_Server_feed 33 = .ok (.invokevirtual 85, 3) := by decide +kernel
theorem d_Server_feed_36 : decode b_Server_feed 36 = .ok (.aload_n 0, 1) := by decide +kernel
theorem d_Server_feed_37 : decode b_Server_feed 37 = .ok (.iload 5, 2) := by decide +kernel
theorem d_Server_feed_39 : decode b_Server_feed 39 = .ok (.invokevirtual 85, 3) := by decide +kernel
theorem d_Server_feed_42 : decode b_Server_feed 42 = .ok (.iconst 1, 1) := by decide +kernel
theorem d_Server_feed_43 : decode b_Server_feed 43 = .ok (.ireturn, 1) := by decide +kernel
theorem d_Server_tapeInt_0 : decode b_Server_tapeInt 0 = .ok (.bipush 24, 2) := by decide +kernel
theorem d_Server_tapeInt_2 : decode b_Server_tapeInt 2 = .ok (.istore_n 2, 1) := by decide +kernel
theorem d_Server_tapeInt_3 : decode b_Server_tapeInt 3 = .ok (.iload_n 2, 1) := by decide +kernel
theorem d_Server_tapeInt_4 : decode b_Server_tapeInt 4 = .ok (.ifCond .lt 32, 3) := by decide +kernel
theorem d_Server_tapeInt_7 : decode b_Server_tapeInt 7 = .ok (.aload_n 0, 1) := by decide +kernel
theorem d_Server_tapeInt_8 : decode b_Server_tapeInt 8 = .ok (.getfield 9, 3) := by decide +kernel
theorem d_Server_tapeInt_11 : decode b_Server_tapeInt 11 = .ok (.aload_n 0, 1) := by decide +kernel
theorem d_Server_tapeInt_12 : decode b_Server_tapeInt 12 = .ok (.getfield 81, 3) := by decide +kernel
theorem d_Server_tapeInt_15 : decode b_Server_tapeInt 15 = .ok (.iload_n 1, 1) := by decide +kernel
theorem d_Server_tapeInt_16 : decode b_Server_tapeInt 16 = .ok (.iload_n 2, 1) := by decide +kernel
theorem d_Server_tapeInt_17 : decode b_Server_tapeInt 17 = .ok (.ishr, 1) := by decide +kernel
theorem d_Server_tapeInt_18 : decode b_Server_tapeInt 18 = .ok (.i2b, 1) := by decide +kernel
theorem d_Server_tapeInt_19 : decode b_Server_tapeInt 19 = .ok (.bastore, 1) := by decide +kernel
theorem d_Server_tapeInt_20 : decode b_Server_tapeInt 20 = .ok (.aload_n 0, 1) := by decide +kernel
theorem d_Server_tapeInt_21 : decode b_Server_tapeInt 21 = .ok (.dup, 1) := by decide +kernel
theorem d_Server_tapeInt_22 : decode b_Server_tapeInt 22 = .ok (.getfield 81, 3) := by decide +kernel
theorem d_Server_tapeInt_25 : decode b_Server_tapeInt 25 = .ok (.iconst 1, 1) := by decide +kernel
theorem d_Server_tapeInt_26 : decode b_Server_tapeInt 26 = .ok (.iadd, 1) := by decide +kernel
theorem d_Server_tapeInt_27 : decode b_Server_tapeInt 27 = .ok (.putfield 81, 3) := by decide +kernel
theorem d_Server_tapeInt_30 : decode b_Server_tapeInt 30 = .ok (.iinc 2 (-8), 3) := by decide +kernel
theorem d_Server_tapeInt_33 : decode b_Server_tapeInt 33 = .ok (.goto (-30), 3) := by decide +kernel
theorem d_Server_tapeInt_36 : decode b_Server_tapeInt 36 = .ok (.return_, 1) := by decide +kernel
theorem d_Server_open_0 : decode b_Server_open 0 = .ok (.aload_n 0, 1) := by decide +kernel
theorem d_Server_open_1 : decode b_Server_open 1 = .ok (.getfield 74, 3) := by decide +kernel
theorem d_Server_open_4 : decode b_Server_open 4 = .ok (.ifCond .eq 22, 3) := by decide +kernel
theorem d_Server_open_7 : decode b_Server_open 7 = .ok (.iload_n 1, 1) := by decide +kernel
theorem d_Server_open_8 : decode b_Server_open 8 = .ok (.invokestatic 88, 3) := by decide +kernel
theorem d_Server_open_11 : decode b_Server_open 11 = .ok (.ifCond .eq 15, 3) := by decide +kernel
theorem d_Server_open_14 : decode b_Server_open 14 = .ok (.aload_n 0, 1) := by decide +kernel
theorem d_Server_open_15 : decode b_Server_open 15 = .ok (.getfield 15, 3) := by decide +kernel
theorem d_Server_open_18 : decode b_Server_open 18 = .ok (.iload_n 1, 1) := by decide +kernel
theorem d_Server_open_19 : decode b_Server_open 19 = .ok (.aaload, 1) := by decide +kernel
theorem d_Server_open_20 : decode b_Server_open 20 = .ok (.getfield 92, 3) := by decide +kernel
theorem d_Server_open_23 : decode b_Server_open 23 = .ok (.ifCond .eq 5, 3) := by decide +kernel
