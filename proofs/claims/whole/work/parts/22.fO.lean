/-! DECODED: Order, Line, the JDK -/
theorem fL_init_0 : decode (m_cc M_L_init) 0 = .ok (.aload_n 0, 1) := by decide +kernel
theorem fL_init_1 : decode (m_cc M_L_init) 1 = .ok (.invokespecial 3, 3) := by decide +kernel
theorem fL_init_4 : decode (m_cc M_L_init) 4 = .ok (.aload_n 0, 1) := by decide +kernel
theorem fL_init_5 : decode (m_cc M_L_init) 5 = .ok (.iload_n 1, 1) := by decide +kernel
theorem fL_init_6 : decode (m_cc M_L_init) 6 = .ok (.putfield 9, 3) := by decide +kernel
theorem fL_init_9 : decode (m_cc M_L_init) 9 = .ok (.aload_n 0, 1) := by decide +kernel
theorem fL_init_10 : decode (m_cc M_L_init) 10 = .ok (.aload_n 2, 1) := by decide +kernel
theorem fL_init_11 : decode (m_cc M_L_init) 11 = .ok (.putfield 15, 3) := by decide +kernel
theorem fL_init_14 : decode (m_cc M_L_init) 14 = .ok (.aload_n 0, 1) := by decide +kernel
theorem fL_init_15 : decode (m_cc M_L_init) 15 = .ok (.iload_n 3, 1) := by decide +kernel
theorem fL_init_16 : decode (m_cc M_L_init) 16 = .ok (.putfield 19, 3) := by decide +kernel
theorem fL_init_19 : decode (m_cc M_L_init) 19 = .ok (.aload_n 0, 1) := by decide +kernel
theorem fL_init_20 : decode (m_cc M_L_init) 20 = .ok (.iload 4, 2) := by decide +kernel
theorem fL_init_22 : decode (m_cc M_L_init) 22 = .ok (.putfield 22, 3) := by decide +kernel
theorem fL_init_25 : decode (m_cc M_L_init) 25 = .ok (.aload_n 0, 1) := by decide +kernel
theorem fL_init_26 : decode (m_cc M_L_init) 26 = .ok (.iload 5, 2) := by decide +kernel
theorem fL_init_28 : decode (m_cc M_L_init) 28 = .ok (.putfield 25, 3) := by decide +kernel
theorem fL_init_31 : decode (m_cc M_L_init) 31 = .ok (.aload_n 0, 1) := by decide +kernel
theorem fL_init_32 : decode (m_cc M_L_init) 32 = .ok (.iconst 0, 1) := by decide +kernel
theorem fL_init_33 : decode (m_cc M_L_init) 33 = .ok (.putfield 28, 3) := by decide +kernel
theorem fL_init_36 : decode (m_cc M_L_init) 36 = .ok (.aload_n 0, 1) := by decide +kernel
theorem fL_init_37 : decode (m_cc M_L_init) 37 = .ok (.iconst 0, 1) := by decide +kernel
theorem fL_init_38 : decode (m_cc M_L_init) 38 = .ok (.putfield 31, 3) := by decide +kernel
theorem fL_init_41 : decode (m_cc M_L_init) 41 = .ok (.aload_n 0, 1) := by decide +kernel
theorem fL_init_42 : decode (m_cc M_L_init) 42 = .ok (.iconst 0, 1) := by decide +kernel
theorem fL_init_43 : decode (m_cc M_L_init) 43 = .ok (.putfield 34, 3) := by decide +kernel
theorem fL_init_46 : decode (m_cc M_L_init) 46 = .ok (.aload_n 0, 1) := by decide +kernel
theorem fL_init_47 : decode (m_cc M_L_init) 47 = .ok (.iconst (-1), 1) := by decide +kernel
theorem fL_init_48 : decode (m_cc M_L_init) 48 = .ok (.putfield 37, 3) := by decide +kernel
theorem fL_init_51 : decode (m_cc M_L_init) 51 = .ok (.aload_n 0, 1) := by decide +kernel
theorem fL_init_52 : decode (m_cc M_L_init) 52 = .ok (.iconst 1, 1) := by decide +kernel
theorem fL_init_53 : decode (m_cc M_L_init) 53 = .ok (.putfield 40, 3) := by decide +kernel
theorem fL_init_56 : decode (m_cc M_L_init) 56 = .ok (.aload_n 0, 1) := by decide +kernel
theorem fL_init_57 : decode (m_cc M_L_init) 57 = .ok (.iconst 0, 1) := by decide +kernel
theorem fL_init_58 : decode (m_cc M_L_init) 58 = .ok (.putfield 44, 3) := by decide +kernel
theorem fL_init_61 : decode (m_cc M_L_init) 61 = .ok (.return_, 1) := by decide +kernel
theorem fL_hasRule_0 : decode (m_cc M_L_hasRule) 0 = .ok (.aload_n 0, 1) := by decide +kernel
theorem fL_hasRule_1 : decode (m_cc M_L_hasRule) 1 = .ok (.getfield 25, 3) := by decide +kernel
theorem fL_hasRule_4 : decode (m_cc M_L_hasRule) 4 = .ok (.iload_n 1, 1) := by decide +kernel
theorem fL_hasRule_5 : decode (m_cc M_L_hasRule) 5 = .ok (.iand, 1) := by decide +kernel
theorem fL_hasRule_6 : decode (m_cc M_L_hasRule) 6 = .ok (.ifCond .eq 7, 3) := by decide +kernel
theorem fL_hasRule_9 : decode (m_cc M_L_hasRule) 9 = .ok (.iconst 1, 1) := by decide +kernel
theorem fL_hasRule_10 : decode (m_cc M_L_hasRule) 10 = .ok (.goto 4, 3) := by decide +kernel
theorem fL_hasRule_13 : decode (m_cc M_L_hasRule) 13 = .ok (.iconst 0, 1) := by decide +kernel
theorem fL_hasRule_14 : decode (m_cc M_L_hasRule) 14 = .ok (.ireturn, 1) := by decide +kernel
theorem fL_isReady_0 : decode (m_cc M_L_isReady) 0 = .ok (.aload_n 0, 1) := by decide +kernel
theorem fL_isReady_1 : decode (m_cc M_L_isReady) 1 = .ok (.getfield 28, 3) := by decide +kernel
theorem fL_isReady_4 : decode (m_cc M_L_isReady) 4 = .ok (.aload_n 0, 1) := by decide +kernel
theorem fL_isReady_5 : decode (m_cc M_L_isReady) 5 = .ok (.getfield 22, 3) := by decide +kernel
theorem fL_isReady_8 : decode (m_cc M_L_isReady) 8 = .ok (.if_icmp .eq 26, 3) := by decide +kernel
theorem fL_isReady_11 : decode (m_cc M_L_isReady) 11 = .ok (.aload_n 0, 1) := by decide +kernel
theorem fL_isReady_12 : decode (m_cc M_L_isReady) 12 = .ok (.iconst 1, 1) := by decide +kernel
theorem fL_isReady_13 : decode (m_cc M_L_isReady) 13 = .ok (.invokevirtual 47, 3) := by decide +kernel
theorem fL_isReady_16 : decode (m_cc M_L_isReady) 16 = .ok (.ifCond .eq 10, 3) := by decide +kernel
theorem fL_isReady_19 : decode (m_cc M_L_isReady) 19 = .ok (.aload_n 0, 1) := by decide +kernel
theorem fL_isReady_20 : decode (m_cc M_L_isReady) 20 = .ok (.getfield 28, 3) := by decide +kernel
theorem fL_isReady_23 : decode (m_cc M_L_isReady) 23 = .ok (.ifCond .gt 11, 3) := by decide +kernel
theorem fL_isReady_26 : decode (m_cc M_L_isReady) 26 = .ok (.aload_n 0, 1) := by decide +kernel
theorem fL_isReady_27 : decode (m_cc M_L_isReady) 27 = .ok (.iconst 4, 1) := by decide +kernel
theorem fL_isReady_28 : decode (m_cc M_L_isReady) 28 = .ok (.invokevirtual 47, 3) := by decide +kernel
theorem fL_isReady_31 : decode (m_cc M_L_isReady) 31 = .ok (.ifCond .eq 7, 3) := by decide +kernel
theorem fL_isReady_34 : decode (m_cc M_L_isReady) 34 = .ok (.iconst 1, 1) := by decide +kernel
theorem fL_isReady_35 : decode (m_cc M_L_isReady) 35 = .ok (.goto 4, 3) := by decide +kernel
theorem fL_isReady_38 : decode (m_cc M_L_isReady) 38 = .ok (.iconst 0, 1) := by decide +kernel
theorem fL_isReady_39 : decode (m_cc M_L_isReady) 39 = .ok (.ireturn, 1) := by decide +kernel
theorem fL_missing_0 : decode (m_cc M_L_missing) 0 = .ok (.aload_n 0, 1) := by decide +kernel
theorem fL_missing_1 : decode (m_cc M_L_missing) 1 = .ok (.getfield 22, 3) := by decide +kernel
theorem fL_missing_4 : decode (m_cc M_L_missing) 4 = .ok (.aload_n 0, 1) := by decide +kernel
theorem fL_missing_5 : decode (m_cc M_L_missing) 5 = .ok (.getfield 34, 3) := by decide +kernel
theorem fL_missing_8 : decode (m_cc M_L_missing) 8 = .ok (.isub, 1) := by decide +kernel
theorem fL_missing_9 : decode (m_cc M_L_missing) 9 = .ok (.ireturn, 1) := by decide +kernel
theorem fL_awaitsBackorder_0 : decode (m_cc M_L_awaitsBackorder) 0 = .ok (.aload_n 0, 1) := by decide +kernel
theorem fL_awaitsBackorder_1 : decode (m_cc M_L_awaitsBackorder) 1 = .ok (.getfield 40, 3) := by decide +kernel
theorem fL_awaitsBackorder_4 : decode (m_cc M_L_awaitsBackorder) 4 = .ok (.ifCond .eq 29, 3) := by decide +kernel
theorem fL_awaitsBackorder_7 : decode (m_cc M_L_awaitsBackorder) 7 = .ok (.aload_n 0, 1) := by decide +kernel
theorem fL_awaitsBackorder_8 : decode (m_cc M_L_awaitsBackorder) 8 = .ok (.iconst 4, 1) := by decide +kernel
theorem fL_awaitsBackorder_9 : decode (m_cc M_L_awaitsBackorder) 9 = .ok (.invokevirtual 47, 3) := by decide +kernel
theorem fL_awaitsBackorder_12 : decode (m_cc M_L_awaitsBackorder) 12 = .ok (.ifCond .eq 21, 3) := by decide +kernel
theorem fL_awaitsBackorder_15 : decode (m_cc M_L_awaitsBackorder) 15 = .ok (.aload_n 0, 1) := by decide +kernel
theorem fL_awaitsBackorder_16 : decode (m_cc M_L_awaitsBackorder) 16 = .ok (.invokevirtual 51, 3) := by decide +kernel
theorem fL_awaitsBackorder_19 : decode (m_cc M_L_awaitsBackorder) 19 = .ok (.ifCond .le 14, 3) := by decide +kernel
theorem fL_awaitsBackorder_22 : decode (m_cc M_L_awaitsBackorder) 22 = .ok (.aload_n 0, 1) := by decide +kernel
theorem fL_awaitsBackorder_23 : decode (m_cc M_L_awaitsBackorder) 23 = .ok (.getfield 44, 3) := by decide +kernel
theorem fL_awaitsBackorder_26 : decode (m_cc M_L_awaitsBackorder) 26 = .ok (.ifCond .ne 7, 3) := by decide +kernel
theorem fL_awaitsBackorder_29 : decode (m_cc M_L_awaitsBackorder) 29 = .ok (.iconst 1, 1) := by decide +kernel
theorem fL_awaitsBackorder_30 : decode (m_cc M_L_awaitsBackorder) 30 = .ok (.goto 4, 3) := by decide +kernel
theorem fL_awaitsBackorder_33 : decode (m_cc M_L_awaitsBackorder) 33 = .ok (.iconst 0, 1) := by decide +kernel
theorem fL_awaitsBackorder_34 : decode (m_cc M_L_awaitsBackorder) 34 = .ok (.ireturn, 1) := by decide +kernel
theorem fO_init_0 : decode (m_cc M_O_init) 0 = .ok (.aload_n 0, 1) := by decide +kernel
theorem fO_init_1 : decode (m_cc M_O_init) 1 = .ok (.invokespecial 3, 3) := by decide +kernel
theorem fO_init_4 : decode (m_cc M_O_init) 4 = .ok (.aload_n 0, 1) := by decide +kernel
theorem fO_init_5 : decode (m_cc M_O_init) 5 = .ok (.iload_n 1, 1) := by decide +kernel
theorem fO_init_6 : decode (m_cc M_O_init) 6 = .ok (.putfield 9, 3) := by decide +kernel
theorem fO_init_9 : decode (m_cc M_O_init) 9 = .ok (.aload_n 0, 1) := by decide +kernel
theorem fO_init_10 : decode (m_cc M_O_init) 10 = .ok (.iload_n 2, 1) := by decide +kernel
theorem fO_init_11 : decode (m_cc M_O_init) 11 = .ok (.putfield 15, 3) := by decide +kernel
theorem fO_init_14 : decode (m_cc M_O_init) 14 = .ok (.aload_n 0, 1) := by decide +kernel
theorem fO_init_15 : decode (m_cc M_O_init) 15 = .ok (.iload_n 3, 1) := by decide +kernel
theorem fO_init_16 : decode (m_cc M_O_init) 16 = .ok (.putfield 18, 3) := by decide +kernel
theorem fO_init_19 : decode (m_cc M_O_init) 19 = .ok (.aload_n 0, 1) := by decide +kernel
theorem fO_init_20 : decode (m_cc M_O_init) 20 = .ok (.iload 4, 2) := by decide +kernel
theorem fO_init_22 : decode (m_cc M_O_init) 22 = .ok (.putfield 21, 3) := by decide +kernel
theorem fO_init_25 : decode (m_cc M_O_init) 25 = .ok (.aload_n 0, 1) := by decide +kernel
theorem fO_init_26 : decode (m_cc M_O_init) 26 = .ok (.iload 5, 2) := by decide +kernel
theorem fO_init_28 : decode (m_cc M_O_init) 28 = .ok (.putfield 24, 3) := by decide +kernel
theorem fO_init_31 : decode (m_cc M_O_init) 31 = .ok (.aload_n 0, 1) := by decide +kernel
theorem fO_init_32 : decode (m_cc M_O_init) 32 = .ok (.new 27, 3) := by decide +kernel
theorem fO_init_35 : decode (m_cc M_O_init) 35 = .ok (.dup, 1) := by decide +kernel
theorem fO_init_36 : decode (m_cc M_O_init) 36 = .ok (.invokespecial 29, 3) := by decide +kernel
theorem fO_init_39 : decode (m_cc M_O_init) 39 = .ok (.putfield 30, 3) := by decide +kernel
theorem fO_init_42 : decode (m_cc M_O_init) 42 = .ok (.aload_n 0, 1) := by decide +kernel
theorem fO_init_43 : decode (m_cc M_O_init) 43 = .ok (.iconst 0, 1) := by decide +kernel
theorem fO_init_44 : decode (m_cc M_O_init) 44 = .ok (.putfield 34, 3) := by decide +kernel
theorem fO_init_47 : decode (m_cc M_O_init) 47 = .ok (.aload_n 0, 1) := by decide +kernel
theorem fO_init_48 : decode (m_cc M_O_init) 48 = .ok (.iconst 0, 1) := by decide +kernel
theorem fO_init_49 : decode (m_cc M_O_init) 49 = .ok (.putfield 37, 3) := by decide +kernel
theorem fO_init_52 : decode (m_cc M_O_init) 52 = .ok (.aload_n 0, 1) := by decide +kernel
theorem fO_init_53 : decode (m_cc M_O_init) 53 = .ok (.iconst 1, 1) := by decide +kernel
theorem fO_init_54 : decode (m_cc M_O_init) 54 = .ok (.putfield 40, 3) := by decide +kernel
theorem fO_init_57 : decode (m_cc M_O_init) 57 = .ok (.aload_n 0, 1) := by decide +kernel
theorem fO_init_58 : decode (m_cc M_O_init) 58 = .ok (.iconst (-1), 1) := by decide +kernel
theorem fO_init_59 : decode (m_cc M_O_init) 59 = .ok (.putfield 43, 3) := by decide +kernel
theorem fO_init_62 : decode (m_cc M_O_init) 62 = .ok (.return_, 1) := by decide +kernel
theorem fO_isBlocked_0 : decode (m_cc M_O_isBlocked) 0 = .ok (.aload_n 0, 1) := by decide +kernel
theorem fO_isBlocked_1 : decode (m_cc M_O_isBlocked) 1 = .ok (.getfield 37, 3) := by decide +kernel
theorem fO_isBlocked_4 : decode (m_cc M_O_isBlocked) 4 = .ok (.ifCond .eq 7, 3) := by decide +kernel
theorem fO_isBlocked_7 : decode (m_cc M_O_isBlocked) 7 = .ok (.iconst 1, 1) := by decide +kernel
theorem fO_isBlocked_8 : decode (m_cc M_O_isBlocked) 8 = .ok (.goto 4, 3) := by decide +kernel
theorem fO_isBlocked_11 : decode (m_cc M_O_isBlocked) 11 = .ok (.iconst 0, 1) := by decide +kernel
theorem fO_isBlocked_12 : decode (m_cc M_O_isBlocked) 12 = .ok (.ireturn, 1) := by decide +kernel
theorem fO_isWaiting_0 : decode (m_cc M_O_isWaiting) 0 = .ok (.aload_n 0, 1) := by decide +kernel
theorem fO_isWaiting_1 : decode (m_cc M_O_isWaiting) 1 = .ok (.getfield 34, 3) := by decide +kernel
theorem fO_isWaiting_4 : decode (m_cc M_O_isWaiting) 4 = .ok (.ifCond .eq 11, 3) := by decide +kernel
theorem fO_isWaiting_7 : decode (m_cc M_O_isWaiting) 7 = .ok (.aload_n 0, 1) := by decide +kernel
theorem fO_isWaiting_8 : decode (m_cc M_O_isWaiting) 8 = .ok (.getfield 34, 3) := by decide +kernel
theorem fO_isWaiting_11 : decode (m_cc M_O_isWaiting) 11 = .ok (.iconst 1, 1) := by decide +kernel
theorem fO_isWaiting_12 : decode (m_cc M_O_isWaiting) 12 = .ok (.if_icmp .ne 14, 3) := by decide +kernel
theorem fO_isWaiting_15 : decode (m_cc M_O_isWaiting) 15 = .ok (.aload_n 0, 1) := by decide +kernel
theorem fO_isWaiting_16 : decode (m_cc M_O_isWaiting) 16 = .ok (.invokevirtual 46, 3) := by decide +kernel
theorem fO_isWaiting_19 : decode (m_cc M_O_isWaiting) 19 = .ok (.ifCond .ne 7, 3) := by decide +kernel
theorem fO_isWaiting_22 : decode (m_cc M_O_isWaiting) 22 = .ok (.iconst 1, 1) := by decide +kernel
theorem fO_isWaiting_23 : decode (m_cc M_O_isWaiting) 23 = .ok (.goto 4, 3) := by decide +kernel
theorem fO_isWaiting_26 : decode (m_cc M_O_isWaiting) 26 = .ok (.iconst 0, 1) := by decide +kernel
theorem fO_isWaiting_27 : decode (m_cc M_O_isWaiting) 27 = .ok (.ireturn, 1) := by decide +kernel
theorem fO_comesBefore_0 : decode (m_cc M_O_comesBefore) 0 = .ok (.aload_n 0, 1) := by decide +kernel
theorem fO_comesBefore_1 : decode (m_cc M_O_comesBefore) 1 = .ok (.getfield 21, 3) := by decide +kernel
theorem fO_comesBefore_4 : decode (m_cc M_O_comesBefore) 4 = .ok (.aload_n 1, 1) := by decide +kernel
theorem fO_comesBefore_5 : decode (m_cc M_O_comesBefore) 5 = .ok (.getfield 21, 3) := by decide +kernel
theorem fO_comesBefore_8 : decode (m_cc M_O_comesBefore) 8 = .ok (.if_icmp .eq 20, 3) := by decide +kernel
theorem fO_comesBefore_11 : decode (m_cc M_O_comesBefore) 11 = .ok (.aload_n 0, 1) := by decide +kernel
theorem fO_comesBefore_12 : decode (m_cc M_O_comesBefore) 12 = .ok (.getfield 21, 3) := by decide +kernel
theorem fO_comesBefore_15 : decode (m_cc M_O_comesBefore) 15 = .ok (.aload_n 1, 1) := by decide +kernel
theorem fO_comesBefore_16 : decode (m_cc M_O_comesBefore) 16 = .ok (.getfield 21, 3) := by decide +kernel
theorem fO_comesBefore_19 : decode (m_cc M_O_comesBefore) 19 = .ok (.if_icmp .ge 7, 3) := by decide +kernel
theorem fO_comesBefore_22 : decode (m_cc M_O_comesBefore) 22 = .ok (.iconst 1, 1) := by decide +kernel
theorem fO_comesBefore_23 : decode (m_cc M_O_comesBefore) 23 = .ok (.goto 4, 3) := by decide +kernel
theorem fO_comesBefore_26 : decode (m_cc M_O_comesBefore) 26 = .ok (.iconst 0, 1) := by decide +kernel
theorem fO_comesBefore_27 : decode (m_cc M_O_comesBefore) 27 = .ok (.ireturn, 1) := by decide +kernel
theorem fO_comesBefore_28 : decode (m_cc M_O_comesBefore) 28 = .ok (.aload_n 0, 1) := by decide +kernel
theorem fO_comesBefore_29 : decode (m_cc M_O_comesBefore) 29 = .ok (.getfield 24, 3) := by decide +kernel
theorem fO_comesBefore_32 : decode (m_cc M_O_comesBefore) 32 = .ok (.aload_n 1, 1) := by decide +kernel
theorem fO_comesBefore_33 : decode (m_cc M_O_comesBefore) 33 = .ok (.getfield 24, 3) := by decide +kernel
theorem fO_comesBefore_36 : decode (m_cc M_O_comesBefore) 36 = .ok (.if_icmp .eq 20, 3) := by decide +kernel
theorem fO_comesBefore_39 : decode (m_cc M_O_comesBefore) 39 = .ok (.aload_n 0, 1) := by decide +kernel
theorem fO_comesBefore_40 : decode (m_cc M_O_comesBefore) 40 = .ok (.getfield 24, 3) := by decide +kernel
theorem fO_comesBefore_43 : decode (m_cc M_O_comesBefore) 43 = .ok (.aload_n 1, 1) := by decide +kernel
theorem fO_comesBefore_44 : decode (m_cc M_O_comesBefore) 44 = .ok (.getfield 24, 3) := by decide +kernel
theorem fO_comesBefore_47 : decode (m_cc M_O_comesBefore) 47 = .ok (.if_icmp .ge 7, 3) := by decide +kernel
theorem fO_comesBefore_50 : decode (m_cc M_O_comesBefore) 50 = .ok (.iconst 1, 1) := by decide +kernel
theorem fO_comesBefore_51 : decode (m_cc M_O_comesBefore) 51 = .ok (.goto 4, 3) := by decide +kernel
theorem fO_comesBefore_54 : decode (m_cc M_O_comesBefore) 54 = .ok (.iconst 0, 1) := by decide +kernel
theorem fO_comesBefore_55 : decode (m_cc M_O_comesBefore) 55 = .ok (.ireturn, 1) := by decide +kernel
theorem fO_comesBefore_56 : decode (m_cc M_O_comesBefore) 56 = .ok (.aload_n 0, 1) := by decide +kernel
theorem fO_comesBefore_57 : decode (m_cc M_O_comesBefore) 57 = .ok (.getfield 9, 3) := by decide +kernel
theorem fO_comesBefore_60 : decode (m_cc M_O_comesBefore) 60 = .ok (.aload_n 1, 1) := by decide +kernel
theorem fO_comesBefore_61 : decode (m_cc M_O_comesBefore) 61 = .ok (.getfield 9, 3) := by decide +kernel
theorem fO_comesBefore_64 : decode (m_cc M_O_comesBefore) 64 = .ok (.if_icmp .ge 7, 3) := by decide +kernel
theorem fO_comesBefore_67 : decode (m_cc M_O_comesBefore) 67 = .ok (.iconst 1, 1) := by decide +kernel
theorem fO_comesBefore_68 : decode (m_cc M_O_comesBefore) 68 = .ok (.goto 4, 3) := by decide +kernel
theorem fO_comesBefore_71 : decode (m_cc M_O_comesBefore) 71 = .ok (.iconst 0, 1) := by decide +kernel
theorem fO_comesBefore_72 : decode (m_cc M_O_comesBefore) 72 = .ok (.ireturn, 1) := by decide +kernel
theorem fO_meetsNextPhase_0 : decode (m_cc M_O_meetsNextPhase) 0 = .ok (.aload_n 0, 1) := by decide +kernel
theorem fO_meetsNextPhase_1 : decode (m_cc M_O_meetsNextPhase) 1 = .ok (.getfield 34, 3) := by decide +kernel
theorem fO_meetsNextPhase_4 : decode (m_cc M_O_meetsNextPhase) 4 = .ok (.tableswitch 66 0 4 #[36, 66, 56, 66, 61], 36) := by decide +kernel
theorem fO_meetsNextPhase_40 : decode (m_cc M_O_meetsNextPhase) 40 = .ok (.aload_n 0, 1) := by decide +kernel
theorem fO_meetsNextPhase_41 : decode (m_cc M_O_meetsNextPhase) 41 = .ok (.invokevirtual 50, 3) := by decide +kernel
theorem fO_meetsNextPhase_44 : decode (m_cc M_O_meetsNextPhase) 44 = .ok (.ifCond .eq 14, 3) := by decide +kernel
theorem fO_meetsNextPhase_47 : decode (m_cc M_O_meetsNextPhase) 47 = .ok (.aload_n 0, 1) := by decide +kernel
theorem fO_meetsNextPhase_48 : decode (m_cc M_O_meetsNextPhase) 48 = .ok (.invokevirtual 53, 3) := by decide +kernel
theorem fO_meetsNextPhase_51 : decode (m_cc M_O_meetsNextPhase) 51 = .ok (.ifCond .eq 7, 3) := by decide +kernel
theorem fO_meetsNextPhase_54 : decode (m_cc M_O_meetsNextPhase) 54 = .ok (.iconst 1, 1) := by decide +kernel
theorem fO_meetsNextPhase_55 : decode (m_cc M_O_meetsNextPhase) 55 = .ok (.goto 4, 3) := by decide +kernel
theorem fO_meetsNextPhase_58 : decode (m_cc M_O_meetsNextPhase) 58 = .ok (.iconst 0, 1) := by decide +kernel
theorem fO_meetsNextPhase_59 : decode (m_cc M_O_meetsNextPhase) 59 = .ok (.ireturn, 1) := by decide +kernel
theorem fO_meetsNextPhase_60 : decode (m_cc M_O_meetsNextPhase) 60 = .ok (.aload_n 0, 1) := by decide +kernel
theorem fO_meetsNextPhase_61 : decode (m_cc M_O_meetsNextPhase) 61 = .ok (.invokevirtual 56, 3) := by decide +kernel
theorem fO_meetsNextPhase_64 : decode (m_cc M_O_meetsNextPhase) 64 = .ok (.ireturn, 1) := by decide +kernel
theorem fO_meetsNextPhase_65 : decode (m_cc M_O_meetsNextPhase) 65 = .ok (.aload_n 0, 1) := by decide +kernel
theorem fO_meetsNextPhase_66 : decode (m_cc M_O_meetsNextPhase) 66 = .ok (.invokevirtual 59, 3) := by decide +kernel
theorem fO_meetsNextPhase_69 : decode (m_cc M_O_meetsNextPhase) 69 = .ok (.ireturn, 1) := by decide +kernel
theorem fO_meetsNextPhase_70 : decode (m_cc M_O_meetsNextPhase) 70 = .ok (.aload_n 0, 1) := by decide +kernel
theorem fO_meetsNextPhase_71 : decode (m_cc M_O_meetsNextPhase) 71 = .ok (.getfield 34, 3) := by decide +kernel
theorem fO_meetsNextPhase_74 : decode (m_cc M_O_meetsNextPhase) 74 = .ok (.iconst 1, 1) := by decide +kernel
theorem fO_meetsNextPhase_75 : decode (m_cc M_O_meetsNextPhase) 75 = .ok (.if_icmp .eq 11, 3) := by decide +kernel
theorem fO_meetsNextPhase_78 : decode (m_cc M_O_meetsNextPhase) 78 = .ok (.aload_n 0, 1) := by decide +kernel
theorem fO_meetsNextPhase_79 : decode (m_cc M_O_meetsNextPhase) 79 = .ok (.getfield 34, 3) := by decide +kernel
theorem fO_meetsNextPhase_82 : decode (m_cc M_O_meetsNextPhase) 82 = .ok (.iconst 3, 1) := by decide +kernel
theorem fO_meetsNextPhase_83 : decode (m_cc M_O_meetsNextPhase) 83 = .ok (.if_icmp .ne 7, 3) := by decide +kernel
theorem fO_meetsNextPhase_86 : decode (m_cc M_O_meetsNextPhase) 86 = .ok (.iconst 1, 1) := by decide +kernel
theorem fO_meetsNextPhase_87 : decode (m_cc M_O_meetsNextPhase) 87 = .ok (.goto 4, 3) := by decide +kernel
theorem fO_meetsNextPhase_90 : decode (m_cc M_O_meetsNextPhase) 90 = .ok (.iconst 0, 1) := by decide +kernel
theorem fO_meetsNextPhase_91 : decode (m_cc M_O_meetsNextPhase) 91 = .ok (.ireturn, 1) := by decide +kernel
theorem fO_hasLiveLine_0 : decode (m_cc M_O_hasLiveLine) 0 = .ok (.iconst 0, 1) := by decide +kernel
theorem fO_hasLiveLine_1 : decode (m_cc M_O_hasLiveLine) 1 = .ok (.istore_n 1, 1) := by decide +kernel
theorem fO_hasLiveLine_2 : decode (m_cc M_O_hasLiveLine) 2 = .ok (.iload_n 1, 1) := by decide +kernel
theorem fO_hasLiveLine_3 : decode (m_cc M_O_hasLiveLine) 3 = .ok (.aload_n 0, 1) := by decide +kernel
theorem fO_hasLiveLine_4 : decode (m_cc M_O_hasLiveLine) 4 = .ok (.getfield 30, 3) := by decide +kernel
theorem fO_hasLiveLine_7 : decode (m_cc M_O_hasLiveLine) 7 = .ok (.invokevirtual 62, 3) := by decide +kernel
theorem fO_hasLiveLine_10 : decode (m_cc M_O_hasLiveLine) 10 = .ok (.if_icmp .ge 28, 3) := by decide +kernel
theorem fO_hasLiveLine_13 : decode (m_cc M_O_hasLiveLine) 13 = .ok (.aload_n 0, 1) := by decide +kernel
theorem fO_hasLiveLine_14 : decode (m_cc M_O_hasLiveLine) 14 = .ok (.getfield 30, 3) := by decide +kernel
theorem fO_hasLiveLine_17 : decode (m_cc M_O_hasLiveLine) 17 = .ok (.iload_n 1, 1) := by decide +kernel
theorem fO_hasLiveLine_18 : decode (m_cc M_O_hasLiveLine) 18 = .ok (.invokevirtual 66, 3) := by decide +kernel
theorem fO_hasLiveLine_21 : decode (m_cc M_O_hasLiveLine) 21 = .ok (.checkcast 70, 3) := by decide +kernel
theorem fO_hasLiveLine_24 : decode (m_cc M_O_hasLiveLine) 24 = .ok (.getfield 72, 3) := by decide +kernel
theorem fO_hasLiveLine_27 : decode (m_cc M_O_hasLiveLine) 27 = .ok (.ifCond .eq 5, 3) := by decide +kernel
theorem fO_hasLiveLine_30 : decode (m_cc M_O_hasLiveLine) 30 = .ok (.iconst 1, 1) := by decide +kernel
theorem fO_hasLiveLine_31 : decode (m_cc M_O_hasLiveLine) 31 = .ok (.ireturn, 1) := by decide +kernel
theorem fO_hasLiveLine_32 : decode (m_cc M_O_hasLiveLine) 32 = .ok (.iinc 1 1, 3) := by decide +kernel
theorem fO_hasLiveLine_35 : decode (m_cc M_O_hasLiveLine) 35 = .ok (.goto (-33), 3) := by decide +kernel
theorem fO_hasLiveLine_38 : decode (m_cc M_O_hasLiveLine) 38 = .ok (.iconst 0, 1) := by decide +kernel
theorem fO_hasLiveLine_39 : decode (m_cc M_O_hasLiveLine) 39 = .ok (.ireturn, 1) := by decide +kernel
theorem fO_eachLiveLineIsReady_0 : decode (m_cc M_O_eachLiveLineIsReady) 0 = .ok (.iconst 0, 1) := by decide +kernel
theorem fO_eachLiveLineIsReady_1 : decode (m_cc M_O_eachLiveLineIsReady) 1 = .ok (.istore_n 1, 1) := by decide +kernel
theorem fO_eachLiveLineIsReady_2 : decode (m_cc M_O_eachLiveLineIsReady) 2 = .ok (.iload_n 1, 1) := by decide +kernel
theorem fO_eachLiveLineIsReady_3 : decode (m_cc M_O_eachLiveLineIsReady) 3 = .ok (.aload_n 0, 1) := by decide +kernel
theorem fO_eachLiveLineIsReady_4 : decode (m_cc M_O_eachLiveLineIsReady) 4 = .ok (.getfield 30, 3) := by decide +kernel
theorem fO_eachLiveLineIsReady_7 : decode (m_cc M_O_eachLiveLineIsReady) 7 = .ok (.invokevirtual 62, 3) := by decide +kernel
theorem fO_eachLiveLineIsReady_10 : decode (m_cc M_O_eachLiveLineIsReady) 10 = .ok (.if_icmp .ge 37, 3) := by decide +kernel
theorem fO_eachLiveLineIsReady_13 : decode (m_cc M_O_eachLiveLineIsReady) 13 = .ok (.aload_n 0, 1) := by decide +kernel
theorem fO_eachLiveLineIsReady_14 : decode (m_cc M_O_eachLiveLineIsReady) 14 = .ok (.getfield 30, 3) := by decide +kernel
theorem fO_eachLiveLineIsReady_17 : decode (m_cc M_O_eachLiveLineIsReady) 17 = .ok (.iload_n 1, 1) := by decide +kernel
theorem fO_eachLiveLineIsReady_18 : decode (m_cc M_O_eachLiveLineIsReady) 18 = .ok (.invokevirtual 66, 3) := by decide +kernel
theorem fO_eachLiveLineIsReady_21 : decode (m_cc M_O_eachLiveLineIsReady) 21 = .ok (.checkcast 70, 3) := by decide +kernel
theorem fO_eachLiveLineIsReady_24 : decode (m_cc M_O_eachLiveLineIsReady) 24 = .ok (.astore_n 2, 1) := by decide +kernel
theorem fO_eachLiveLineIsReady_25 : decode (m_cc M_O_eachLiveLineIsReady) 25 = .ok (.aload_n 2, 1) := by decide +kernel
theorem fO_eachLiveLineIsReady_26 : decode (m_cc M_O_eachLiveLineIsReady) 26 = .ok (.getfield 72, 3) := by decide +kernel
theorem fO_eachLiveLineIsReady_29 : decode (m_cc M_O_eachLiveLineIsReady) 29 = .ok (.ifCond .eq 12, 3) := by decide +kernel
theorem fO_eachLiveLineIsReady_32 : decode (m_cc M_O_eachLiveLineIsReady) 32 = .ok (.aload_n 2, 1) := by decide +kernel
theorem fO_eachLiveLineIsReady_33 : decode (m_cc M_O_eachLiveLineIsReady) 33 = .ok (.invokevirtual 76, 3) := by decide +kernel
theorem fO_eachLiveLineIsReady_36 : decode (m_cc M_O_eachLiveLineIsReady) 36 = .ok (.ifCond .ne 5, 3) := by decide +kernel
theorem fO_eachLiveLineIsReady_39 : decode (m_cc M_O_eachLiveLineIsReady) 39 = .ok (.iconst 0, 1) := by decide +kernel
theorem fO_eachLiveLineIsReady_40 : decode (m_cc M_O_eachLiveLineIsReady) 40 = .ok (.ireturn, 1) := by decide +kernel
theorem fO_eachLiveLineIsReady_41 : decode (m_cc M_O_eachLiveLineIsReady) 41 = .ok (.iinc 1 1, 3) := by decide +kernel
theorem fO_eachLiveLineIsReady_44 : decode (m_cc M_O_eachLiveLineIsReady) 44 = .ok (.goto (-42), 3) := by decide +kernel
theorem fO_eachLiveLineIsReady_47 : decode (m_cc M_O_eachLiveLineIsReady) 47 = .ok (.iconst 1, 1) := by decide +kernel
theorem fO_eachLiveLineIsReady_48 : decode (m_cc M_O_eachLiveLineIsReady) 48 = .ok (.ireturn, 1) := by decide +kernel
theorem fO_allHeldIsPicked_0 : decode (m_cc M_O_allHeldIsPicked) 0 = .ok (.iconst 0, 1) := by decide +kernel
theorem fO_allHeldIsPicked_1 : decode (m_cc M_O_allHeldIsPicked) 1 = .ok (.istore_n 1, 1) := by decide +kernel
theorem fO_allHeldIsPicked_2 : decode (m_cc M_O_allHeldIsPicked) 2 = .ok (.iload_n 1, 1) := by decide +kernel
theorem fO_allHeldIsPicked_3 : decode (m_cc M_O_allHeldIsPicked) 3 = .ok (.aload_n 0, 1) := by decide +kernel
theorem fO_allHeldIsPicked_4 : decode (m_cc M_O_allHeldIsPicked) 4 = .ok (.getfield 30, 3) := by decide +kernel
theorem fO_allHeldIsPicked_7 : decode (m_cc M_O_allHeldIsPicked) 7 = .ok (.invokevirtual 62, 3) := by decide +kernel
theorem fO_allHeldIsPicked_10 : decode (m_cc M_O_allHeldIsPicked) 10 = .ok (.if_icmp .ge 41, 3) := by decide +kernel
theorem fO_allHeldIsPicked_13 : decode (m_cc M_O_allHeldIsPicked) 13 = .ok (.aload_n 0, 1) := by decide +kernel
theorem fO_allHeldIsPicked_14 : decode (m_cc M_O_allHeldIsPicked) 14 = .ok (.getfield 30, 3) := by decide +kernel
theorem fO_allHeldIsPicked_17 : decode (m_cc M_O_allHeldIsPicked) 17 = .ok (.iload_n 1, 1) := by decide +kernel
theorem fO_allHeldIsPicked_18 : decode (m_cc M_O_allHeldIsPicked) 18 = .ok (.invokevirtual 66, 3) := by decide +kernel
theorem fO_allHeldIsPicked_21 : decode (m_cc M_O_allHeldIsPicked) 21 = .ok (.checkcast 70, 3) := by decide +kernel
theorem fO_allHeldIsPicked_24 : decode (m_cc M_O_allHeldIsPicked) 24 = .ok (.astore_n 2, 1) := by decide +kernel
theorem fO_allHeldIsPicked_25 : decode (m_cc M_O_allHeldIsPicked) 25 = .ok (.aload_n 2, 1) := by decide +kernel
theorem fO_allHeldIsPicked_26 : decode (m_cc M_O_allHeldIsPicked) 26 = .ok (.getfield 72, 3) := by decide +kernel
theorem fO_allHeldIsPicked_29 : decode (m_cc M_O_allHeldIsPicked) 29 = .ok (.ifCond .eq 16, 3) := by decide +kernel
theorem fO_allHeldIsPicked_32 : decode (m_cc M_O_allHeldIsPicked) 32 = .ok (.aload_n 2, 1) := by decide +kernel
theorem fO_allHeldIsPicked_33 : decode (m_cc M_O_allHeldIsPicked) 33 = .ok (.getfield 79, 3) := by decide +kernel
theorem fO_allHeldIsPicked_36 : decode (m_cc M_O_allHeldIsPicked) 36 = .ok (.aload_n 2, 1) := by decide +kernel
theorem fO_allHeldIsPicked_37 : decode (m_cc M_O_allHeldIsPicked) 37 = .ok (.getfield 82, 3) := by decide +kernel
theorem fO_allHeldIsPicked_40 : decode (m_cc M_O_allHeldIsPicked) 40 = .ok (.if_icmp .eq 5, 3) := by decide +kernel
theorem fO_allHeldIsPicked_43 : decode (m_cc M_O_allHeldIsPicked) 43 = .ok (.iconst 0, 1) := by decide +kernel
theorem fO_allHeldIsPicked_44 : decode (m_cc M_O_allHeldIsPicked) 44 = .ok (.ireturn, 1) := by decide +kernel
theorem fO_allHeldIsPicked_45 : decode (m_cc M_O_allHeldIsPicked) 45 = .ok (.iinc 1 1, 3) := by decide +kernel
theorem fO_allHeldIsPicked_48 : decode (m_cc M_O_allHeldIsPicked) 48 = .ok (.goto (-46), 3) := by decide +kernel
theorem fO_allHeldIsPicked_51 : decode (m_cc M_O_allHeldIsPicked) 51 = .ok (.iconst 1, 1) := by decide +kernel
theorem fO_allHeldIsPicked_52 : decode (m_cc M_O_allHeldIsPicked) 52 = .ok (.ireturn, 1) := by decide +kernel
theorem fO_noLineAwaitsBackorder_0 : decode (m_cc M_O_noLineAwaitsBackorder) 0 = .ok (.iconst 0, 1) := by decide +kernel
theorem fO_noLineAwaitsBackorder_1 : decode (m_cc M_O_noLineAwaitsBackorder) 1 = .ok (.istore_n 1, 1) := by decide +kernel
theorem fO_noLineAwaitsBackorder_2 : decode (m_cc M_O_noLineAwaitsBackorder) 2 = .ok (.iload_n 1, 1) := by decide +kernel
theorem fO_noLineAwaitsBackorder_3 : decode (m_cc M_O_noLineAwaitsBackorder) 3 = .ok (.aload_n 0, 1) := by decide +kernel
theorem fO_noLineAwaitsBackorder_4 : decode (m_cc M_O_noLineAwaitsBackorder) 4 = .ok (.getfield 30, 3) := by decide +kernel
theorem fO_noLineAwaitsBackorder_7 : decode (m_cc M_O_noLineAwaitsBackorder) 7 = .ok (.invokevirtual 62, 3) := by decide +kernel
theorem fO_noLineAwaitsBackorder_10 : decode (m_cc M_O_noLineAwaitsBackorder) 10 = .ok (.if_icmp .ge 28, 3) := by decide +kernel
theorem fO_noLineAwaitsBackorder_13 : decode (m_cc M_O_noLineAwaitsBackorder) 13 = .ok (.aload_n 0, 1) := by decide +kernel
theorem fO_noLineAwaitsBackorder_14 : decode (m_cc M_O_noLineAwaitsBackorder) 14 = .ok (.getfield 30, 3) := by decide +kernel
theorem fO_noLineAwaitsBackorder_17 : decode (m_cc M_O_noLineAwaitsBackorder) 17 = .ok (.iload_n 1, 1) := by decide +kernel
theorem fO_noLineAwaitsBackorder_18 : decode (m_cc M_O_noLineAwaitsBackorder) 18 = .ok (.invokevirtual 66, 3) := by decide +kernel
theorem fO_noLineAwaitsBackorder_21 : decode (m_cc M_O_noLineAwaitsBackorder) 21 = .ok (.checkcast 70, 3) := by decide +kernel
theorem fO_noLineAwaitsBackorder_24 : decode (m_cc M_O_noLineAwaitsBackorder) 24 = .ok (.invokevirtual 85, 3) := by decide +kernel
theorem fO_noLineAwaitsBackorder_27 : decode (m_cc M_O_noLineAwaitsBackorder) 27 = .ok (.ifCond .eq 5, 3) := by decide +kernel
theorem fO_noLineAwaitsBackorder_30 : decode (m_cc M_O_noLineAwaitsBackorder) 30 = .ok (.iconst 0, 1) := by decide +kernel
theorem fO_noLineAwaitsBackorder_31 : decode (m_cc M_O_noLineAwaitsBackorder) 31 = .ok (.ireturn, 1) := by decide +kernel
theorem fO_noLineAwaitsBackorder_32 : decode (m_cc M_O_noLineAwaitsBackorder) 32 = .ok (.iinc 1 1, 3) := by decide +kernel
theorem fO_noLineAwaitsBackorder_35 : decode (m_cc M_O_noLineAwaitsBackorder) 35 = .ok (.goto (-33), 3) := by decide +kernel
theorem fO_noLineAwaitsBackorder_38 : decode (m_cc M_O_noLineAwaitsBackorder) 38 = .ok (.iconst 1, 1) := by decide +kernel
theorem fO_noLineAwaitsBackorder_39 : decode (m_cc M_O_noLineAwaitsBackorder) 39 = .ok (.ireturn, 1) := by decide +kernel
theorem fO_shipAllPicked_0 : decode (m_cc M_O_shipAllPicked) 0 = .ok (.iconst 0, 1) := by decide +kernel
theorem fO_shipAllPicked_1 : decode (m_cc M_O_shipAllPicked) 1 = .ok (.istore_n 1, 1) := by decide +kernel
theorem fO_shipAllPicked_2 : decode (m_cc M_O_shipAllPicked) 2 = .ok (.iload_n 1, 1) := by decide +kernel
theorem fO_shipAllPicked_3 : decode (m_cc M_O_shipAllPicked) 3 = .ok (.aload_n 0, 1) := by decide +kernel
theorem fO_shipAllPicked_4 : decode (m_cc M_O_shipAllPicked) 4 = .ok (.getfield 30, 3) := by decide +kernel
theorem fO_shipAllPicked_7 : decode (m_cc M_O_shipAllPicked) 7 = .ok (.invokevirtual 62, 3) := by decide +kernel
theorem fO_shipAllPicked_10 : decode (m_cc M_O_shipAllPicked) 10 = .ok (.if_icmp .ge 29, 3) := by decide +kernel
theorem fO_shipAllPicked_13 : decode (m_cc M_O_shipAllPicked) 13 = .ok (.aload_n 0, 1) := by decide +kernel
theorem fO_shipAllPicked_14 : decode (m_cc M_O_shipAllPicked) 14 = .ok (.getfield 30, 3) := by decide +kernel
theorem fO_shipAllPicked_17 : decode (m_cc M_O_shipAllPicked) 17 = .ok (.iload_n 1, 1) := by decide +kernel
theorem fO_shipAllPicked_18 : decode (m_cc M_O_shipAllPicked) 18 = .ok (.invokevirtual 66, 3) := by decide +kernel
theorem fO_shipAllPicked_21 : decode (m_cc M_O_shipAllPicked) 21 = .ok (.checkcast 70, 3) := by decide +kernel
theorem fO_shipAllPicked_24 : decode (m_cc M_O_shipAllPicked) 24 = .ok (.astore_n 2, 1) := by decide +kernel
theorem fO_shipAllPicked_25 : decode (m_cc M_O_shipAllPicked) 25 = .ok (.aload_n 2, 1) := by decide +kernel
theorem fO_shipAllPicked_26 : decode (m_cc M_O_shipAllPicked) 26 = .ok (.aload_n 2, 1) := by decide +kernel
theorem fO_shipAllPicked_27 : decode (m_cc M_O_shipAllPicked) 27 = .ok (.getfield 79, 3) := by decide +kernel
theorem fO_shipAllPicked_30 : decode (m_cc M_O_shipAllPicked) 30 = .ok (.putfield 88, 3) := by decide +kernel
theorem fO_shipAllPicked_33 : decode (m_cc M_O_shipAllPicked) 33 = .ok (.iinc 1 1, 3) := by decide +kernel
theorem fO_shipAllPicked_36 : decode (m_cc M_O_shipAllPicked) 36 = .ok (.goto (-34), 3) := by decide +kernel
theorem fO_shipAllPicked_39 : decode (m_cc M_O_shipAllPicked) 39 = .ok (.return_, 1) := by decide +kernel
theorem fO_takeLinesOf_0 : decode (m_cc M_O_takeLinesOf) 0 = .ok (.aload_n 1, 1) := by decide +kernel
theorem fO_takeLinesOf_1 : decode (m_cc M_O_takeLinesOf) 1 = .ok (.getfield 30, 3) := by decide +kernel
theorem fO_takeLinesOf_4 : decode (m_cc M_O_takeLinesOf) 4 = .ok (.invokevirtual 62, 3) := by decide +kernel
theorem fO_takeLinesOf_7 : decode (m_cc M_O_takeLinesOf) 7 = .ok (.istore_n 2, 1) := by decide +kernel
theorem fO_takeLinesOf_8 : decode (m_cc M_O_takeLinesOf) 8 = .ok (.iconst 0, 1) := by decide +kernel
theorem fO_takeLinesOf_9 : decode (m_cc M_O_takeLinesOf) 9 = .ok (.istore_n 3, 1) := by decide +kernel
theorem fO_takeLinesOf_10 : decode (m_cc M_O_takeLinesOf) 10 = .ok (.iload_n 3, 1) := by decide +kernel
theorem fO_takeLinesOf_11 : decode (m_cc M_O_takeLinesOf) 11 = .ok (.iload_n 2, 1) := by decide +kernel
theorem fO_takeLinesOf_12 : decode (m_cc M_O_takeLinesOf) 12 = .ok (.if_icmp .ge 38, 3) := by decide +kernel
theorem fO_takeLinesOf_15 : decode (m_cc M_O_takeLinesOf) 15 = .ok (.aload_n 1, 1) := by decide +kernel
theorem fO_takeLinesOf_16 : decode (m_cc M_O_takeLinesOf) 16 = .ok (.getfield 30, 3) := by decide +kernel
theorem fO_takeLinesOf_19 : decode (m_cc M_O_takeLinesOf) 19 = .ok (.iload_n 3, 1) := by decide +kernel
theorem fO_takeLinesOf_20 : decode (m_cc M_O_takeLinesOf) 20 = .ok (.invokevirtual 66, 3) := by decide +kernel
theorem fO_takeLinesOf_23 : decode (m_cc M_O_takeLinesOf) 23 = .ok (.checkcast 70, 3) := by decide +kernel
theorem fO_takeLinesOf_26 : decode (m_cc M_O_takeLinesOf) 26 = .ok (.astore 4, 2) := by decide +kernel
theorem fO_takeLinesOf_28 : decode (m_cc M_O_takeLinesOf) 28 = .ok (.aload 4, 2) := by decide +kernel
theorem fO_takeLinesOf_30 : decode (m_cc M_O_takeLinesOf) 30 = .ok (.aload_n 0, 1) := by decide +kernel
theorem fO_takeLinesOf_31 : decode (m_cc M_O_takeLinesOf) 31 = .ok (.putfield 91, 3) := by decide +kernel
theorem fO_takeLinesOf_34 : decode (m_cc M_O_takeLinesOf) 34 = .ok (.aload_n 0, 1) := by decide +kernel
theorem fO_takeLinesOf_35 : decode (m_cc M_O_takeLinesOf) 35 = .ok (.getfield 30, 3) := by decide +kernel
theorem fO_takeLinesOf_38 : decode (m_cc M_O_takeLinesOf) 38 = .ok (.aload 4, 2) := by decide +kernel
theorem fO_takeLinesOf_40 : decode (m_cc M_O_takeLinesOf) 40 = .ok (.invokevirtual 95, 3) := by decide +kernel
theorem fO_takeLinesOf_43 : decode (m_cc M_O_takeLinesOf) 43 = .ok (.pop, 1) := by decide +kernel
theorem fO_takeLinesOf_44 : decode (m_cc M_O_takeLinesOf) 44 = .ok (.iinc 3 1, 3) := by decide +kernel
theorem fO_takeLinesOf_47 : decode (m_cc M_O_takeLinesOf) 47 = .ok (.goto (-37), 3) := by decide +kernel
theorem fO_takeLinesOf_50 : decode (m_cc M_O_takeLinesOf) 50 = .ok (.aload_n 1, 1) := by decide +kernel
theorem fO_takeLinesOf_51 : decode (m_cc M_O_takeLinesOf) 51 = .ok (.getfield 30, 3) := by decide +kernel
theorem fO_takeLinesOf_54 : decode (m_cc M_O_takeLinesOf) 54 = .ok (.invokevirtual 99, 3) := by decide +kernel
theorem fO_takeLinesOf_57 : decode (m_cc M_O_takeLinesOf) 57 = .ok (.return_, 1) := by decide +kernel
theorem fO_missing_0 : decode (m_cc M_O_missing) 0 = .ok (.aload_n 0, 1) := by decide +kernel
theorem fO_missing_1 : decode (m_cc M_O_missing) 1 = .ok (.getfield 34, 3) := by decide +kernel
theorem fO_missing_4 : decode (m_cc M_O_missing) 4 = .ok (.iconst 4, 1) := by decide +kernel
theorem fO_missing_5 : decode (m_cc M_O_missing) 5 = .ok (.if_icmp .ge 5, 3) := by decide +kernel
theorem fO_missing_8 : decode (m_cc M_O_missing) 8 = .ok (.iconst 0, 1) := by decide +kernel
theorem fO_missing_9 : decode (m_cc M_O_missing) 9 = .ok (.ireturn, 1) := by decide +kernel
theorem fO_missing_10 : decode (m_cc M_O_missing) 10 = .ok (.iconst 0, 1) := by decide +kernel
theorem fO_missing_11 : decode (m_cc M_O_missing) 11 = .ok (.istore_n 1, 1) := by decide +kernel
theorem fO_missing_12 : decode (m_cc M_O_missing) 12 = .ok (.iconst 0, 1) := by decide +kernel
theorem fO_missing_13 : decode (m_cc M_O_missing) 13 = .ok (.istore_n 2, 1) := by decide +kernel
theorem fO_missing_14 : decode (m_cc M_O_missing) 14 = .ok (.iload_n 2, 1) := by decide +kernel
theorem fO_missing_15 : decode (m_cc M_O_missing) 15 = .ok (.aload_n 0, 1) := by decide +kernel
theorem fO_missing_16 : decode (m_cc M_O_missing) 16 = .ok (.getfield 30, 3) := by decide +kernel
theorem fO_missing_19 : decode (m_cc M_O_missing) 19 = .ok (.invokevirtual 62, 3) := by decide +kernel
theorem fO_missing_22 : decode (m_cc M_O_missing) 22 = .ok (.if_icmp .ge 35, 3) := by decide +kernel
theorem fO_missing_25 : decode (m_cc M_O_missing) 25 = .ok (.aload_n 0, 1) := by decide +kernel
theorem fO_missing_26 : decode (m_cc M_O_missing) 26 = .ok (.getfield 30, 3) := by decide +kernel
theorem fO_missing_29 : decode (m_cc M_O_missing) 29 = .ok (.iload_n 2, 1) := by decide +kernel
theorem fO_missing_30 : decode (m_cc M_O_missing) 30 = .ok (.invokevirtual 66, 3) := by decide +kernel
theorem fO_missing_33 : decode (m_cc M_O_missing) 33 = .ok (.checkcast 70, 3) := by decide +kernel
theorem fO_missing_36 : decode (m_cc M_O_missing) 36 = .ok (.astore_n 3, 1) := by decide +kernel
theorem fO_missing_37 : decode (m_cc M_O_missing) 37 = .ok (.aload_n 3, 1) := by decide +kernel
theorem fO_missing_38 : decode (m_cc M_O_missing) 38 = .ok (.getfield 72, 3) := by decide +kernel
theorem fO_missing_41 : decode (m_cc M_O_missing) 41 = .ok (.ifCond .eq 10, 3) := by decide +kernel
theorem fO_missing_44 : decode (m_cc M_O_missing) 44 = .ok (.iload_n 1, 1) := by decide +kernel
theorem fO_missing_45 : decode (m_cc M_O_missing) 45 = .ok (.aload_n 3, 1) := by decide +kernel
theorem fO_missing_46 : decode (m_cc M_O_missing) 46 = .ok (.invokevirtual 102, 3) := by decide +kernel
theorem fO_missing_49 : decode (m_cc M_O_missing) 49 = .ok (.iadd, 1) := by decide +kernel
theorem fO_missing_50 : decode (m_cc M_O_missing) 50 = .ok (.istore_n 1, 1) := by decide +kernel
theorem fO_missing_51 : decode (m_cc M_O_missing) 51 = .ok (.iinc 2 1, 3) := by decide +kernel
theorem fO_missing_54 : decode (m_cc M_O_missing) 54 = .ok (.goto (-40), 3) := by decide +kernel
theorem fO_missing_57 : decode (m_cc M_O_missing) 57 = .ok (.iload_n 1, 1) := by decide +kernel
theorem fO_missing_58 : decode (m_cc M_O_missing) 58 = .ok (.ireturn, 1) := by decide +kernel
theorem fJi_bitCount_0 : decode (m_cc M_Ji_bitCount) 0 = .ok (.iload_n 0, 1) := by decide +kernel
theorem fJi_bitCount_1 : decode (m_cc M_Ji_bitCount) 1 = .ok (.iload_n 0, 1) := by decide +kernel
theorem fJi_bitCount_2 : decode (m_cc M_Ji_bitCount) 2 = .ok (.iconst 1, 1) := by decide +kernel
theorem fJi_bitCount_3 : decode (m_cc M_Ji_bitCount) 3 = .ok (.iushr, 1) := by decide +kernel
theorem fJi_bitCount_4 : decode (m_cc M_Ji_bitCount) 4 = .ok (.ldc_w 265, 3) := by decide +kernel
theorem fJi_bitCount_7 : decode (m_cc M_Ji_bitCount) 7 = .ok (.iand, 1) := by decide +kernel
theorem fJi_bitCount_8 : decode (m_cc M_Ji_bitCount) 8 = .ok (.isub, 1) := by decide +kernel
theorem fJi_bitCount_9 : decode (m_cc M_Ji_bitCount) 9 = .ok (.istore_n 0, 1) := by decide +kernel
theorem fJi_bitCount_10 : decode (m_cc M_Ji_bitCount) 10 = .ok (.iload_n 0, 1) := by decide +kernel
theorem fJi_bitCount_11 : decode (m_cc M_Ji_bitCount) 11 = .ok (.ldc_w 266, 3) := by decide +kernel
theorem fJi_bitCount_14 : decode (m_cc M_Ji_bitCount) 14 = .ok (.iand, 1) := by decide +kernel
theorem fJi_bitCount_15 : decode (m_cc M_Ji_bitCount) 15 = .ok (.iload_n 0, 1) := by decide +kernel
theorem fJi_bitCount_16 : decode (m_cc M_Ji_bitCount) 16 = .ok (.iconst 2, 1) := by decide +kernel
theorem fJi_bitCount_17 : decode (m_cc M_Ji_bitCount) 17 = .ok (.iushr, 1) := by decide +kernel
theorem fJi_bitCount_18 : decode (m_cc M_Ji_bitCount) 18 = .ok (.ldc_w 266, 3) := by decide +kernel
theorem fJi_bitCount_21 : decode (m_cc M_Ji_bitCount) 21 = .ok (.iand, 1) := by decide +kernel
theorem fJi_bitCount_22 : decode (m_cc M_Ji_bitCount) 22 = .ok (.iadd, 1) := by decide +kernel
theorem fJi_bitCount_23 : decode (m_cc M_Ji_bitCount) 23 = .ok (.istore_n 0, 1) := by decide +kernel
theorem fJi_bitCount_24 : decode (m_cc M_Ji_bitCount) 24 = .ok (.iload_n 0, 1) := by decide +kernel
theorem fJi_bitCount_25 : decode (m_cc M_Ji_bitCount) 25 = .ok (.iload_n 0, 1) := by decide +kernel
theorem fJi_bitCount_26 : decode (m_cc M_Ji_bitCount) 26 = .ok (.iconst 4, 1) := by decide +kernel
theorem fJi_bitCount_27 : decode (m_cc M_Ji_bitCount) 27 = .ok (.iushr, 1) := by decide +kernel
theorem fJi_bitCount_28 : decode (m_cc M_Ji_bitCount) 28 = .ok (.iadd, 1) := by decide +kernel
theorem fJi_bitCount_29 : decode (m_cc M_Ji_bitCount) 29 = .ok (.ldc_w 267, 3) := by decide +kernel
theorem fJi_bitCount_32 : decode (m_cc M_Ji_bitCount) 32 = .ok (.iand, 1) := by decide +kernel
theorem fJi_bitCount_33 : decode (m_cc M_Ji_bitCount) 33 = .ok (.istore_n 0, 1) := by decide +kernel
theorem fJi_bitCount_34 : decode (m_cc M_Ji_bitCount) 34 = .ok (.iload_n 0, 1) := by decide +kernel
theorem fJi_bitCount_35 : decode (m_cc M_Ji_bitCount) 35 = .ok (.iload_n 0, 1) := by decide +kernel
theorem fJi_bitCount_36 : decode (m_cc M_Ji_bitCount) 36 = .ok (.bipush 8, 2) := by decide +kernel
theorem fJi_bitCount_38 : decode (m_cc M_Ji_bitCount) 38 = .ok (.iushr, 1) := by decide +kernel
theorem fJi_bitCount_39 : decode (m_cc M_Ji_bitCount) 39 = .ok (.iadd, 1) := by decide +kernel
theorem fJi_bitCount_40 : decode (m_cc M_Ji_bitCount) 40 = .ok (.istore_n 0, 1) := by decide +kernel
theorem fJi_bitCount_41 : decode (m_cc M_Ji_bitCount) 41 = .ok (.iload_n 0, 1) := by decide +kernel
theorem fJi_bitCount_42 : decode (m_cc M_Ji_bitCount) 42 = .ok (.iload_n 0, 1) := by decide +kernel
theorem fJi_bitCount_43 : decode (m_cc M_Ji_bitCount) 43 = .ok (.bipush 16, 2) := by decide +kernel
theorem fJi_bitCount_45 : decode (m_cc M_Ji_bitCount) 45 = .ok (.iushr, 1) := by decide +kernel
theorem fJi_bitCount_46 : decode (m_cc M_Ji_bitCount) 46 = .ok (.iadd, 1) := by decide +kernel
theorem fJi_bitCount_47 : decode (m_cc M_Ji_bitCount) 47 = .ok (.istore_n 0, 1) := by decide +kernel
theorem fJi_bitCount_48 : decode (m_cc M_Ji_bitCount) 48 = .ok (.iload_n 0, 1) := by decide +kernel
theorem fJi_bitCount_49 : decode (m_cc M_Ji_bitCount) 49 = .ok (.bipush 63, 2) := by decide +kernel
theorem fJi_bitCount_51 : decode (m_cc M_Ji_bitCount) 51 = .ok (.iand, 1) := by decide +kernel
theorem fJi_bitCount_52 : decode (m_cc M_Ji_bitCount) 52 = .ok (.ireturn, 1) := by decide +kernel
theorem fAc_init_0 : decode (m_cc M_Ac_init) 0 = .ok (.aload_n 0, 1) := by decide +kernel
theorem fAc_init_1 : decode (m_cc M_Ac_init) 1 = .ok (.invokespecial 1, 3) := by decide +kernel
theorem fAc_init_4 : decode (m_cc M_Ac_init) 4 = .ok (.return_, 1) := by decide +kernel
theorem fAl_init_0 : decode (m_cc M_Al_init) 0 = .ok (.aload_n 0, 1) := by decide +kernel
theorem fAl_init_1 : decode (m_cc M_Al_init) 1 = .ok (.invokespecial 1, 3) := by decide +kernel
theorem fAl_init_4 : decode (m_cc M_Al_init) 4 = .ok (.aload_n 0, 1) := by decide +kernel
theorem fAl_init_5 : decode (m_cc M_Al_init) 5 = .ok (.iconst 0, 1) := by decide +kernel
theorem fAl_init_6 : decode (m_cc M_Al_init) 6 = .ok (.putfield 7, 3) := by decide +kernel
theorem fAl_init_9 : decode (m_cc M_Al_init) 9 = .ok (.return_, 1) := by decide +kernel
theorem fA_init_0 : decode (m_cc M_A_init) 0 = .ok (.aload_n 0, 1) := by decide +kernel
theorem fA_init_1 : decode (m_cc M_A_init) 1 = .ok (.invokespecial 1, 3) := by decide +kernel
theorem fA_init_4 : decode (m_cc M_A_init) 4 = .ok (.aload_n 0, 1) := by decide +kernel
theorem fA_init_5 : decode (m_cc M_A_init) 5 = .ok (.getstatic 39, 3) := by decide +kernel
theorem fA_init_8 : decode (m_cc M_A_init) 8 = .ok (.putfield 9, 3) := by decide +kernel
theorem fA_init_11 : decode (m_cc M_A_init) 11 = .ok (.return_, 1) := by decide +kernel
theorem fA_add0_0 : decode (m_cc M_A_add0) 0 = .ok (.aload_n 0, 1) := by decide +kernel
theorem fA_add0_1 : decode (m_cc M_A_add0) 1 = .ok (.dup, 1) := by decide +kernel
theorem fA_add0_2 : decode (m_cc M_A_add0) 2 = .ok (.getfield 63, 3) := by decide +kernel
theorem fA_add0_5 : decode (m_cc M_A_add0) 5 = .ok (.iconst 1, 1) := by decide +kernel
theorem fA_add0_6 : decode (m_cc M_A_add0) 6 = .ok (.iadd, 1) := by decide +kernel
theorem fA_add0_7 : decode (m_cc M_A_add0) 7 = .ok (.putfield 63, 3) := by decide +kernel
theorem fA_add0_10 : decode (m_cc M_A_add0) 10 = .ok (.aload_n 0, 1) := by decide +kernel
theorem fA_add0_11 : decode (m_cc M_A_add0) 11 = .ok (.aload_n 1, 1) := by decide +kernel
theorem fA_add0_12 : decode (m_cc M_A_add0) 12 = .ok (.aload_n 0, 1) := by decide +kernel
theorem fA_add0_13 : decode (m_cc M_A_add0) 13 = .ok (.getfield 9, 3) := by decide +kernel
theorem fA_add0_16 : decode (m_cc M_A_add0) 16 = .ok (.aload_n 0, 1) := by decide +kernel
theorem fA_add0_17 : decode (m_cc M_A_add0) 17 = .ok (.getfield 48, 3) := by decide +kernel
theorem fA_add0_20 : decode (m_cc M_A_add0) 20 = .ok (.invokevirtual 131, 3) := by decide +kernel
theorem fA_add0_23 : decode (m_cc M_A_add0) 23 = .ok (.iconst 1, 1) := by decide +kernel
theorem fA_add0_24 : decode (m_cc M_A_add0) 24 = .ok (.ireturn, 1) := by decide +kernel
theorem fA_add1_0 : decode (m_cc M_A_add1) 0 = .ok (.iload_n 3, 1) := by decide +kernel
theorem fA_add1_1 : decode (m_cc M_A_add1) 1 = .ok (.aload_n 2, 1) := by decide +kernel
theorem fA_add1_2 : decode (m_cc M_A_add1) 2 = .ok (.arraylength, 1) := by decide +kernel
theorem fA_add1_3 : decode (m_cc M_A_add1) 3 = .ok (.if_icmp .ne 8, 3) := by decide +kernel
theorem fA_add1_6 : decode (m_cc M_A_add1) 6 = .ok (.aload_n 0, 1) := by decide +kernel
theorem fA_add1_7 : decode (m_cc M_A_add1) 7 = .ok (.invokevirtual 129, 3) := by decide +kernel
theorem fA_add1_10 : decode (m_cc M_A_add1) 10 = .ok (.astore_n 2, 1) := by decide +kernel
theorem fA_add1_11 : decode (m_cc M_A_add1) 11 = .ok (.aload_n 2, 1) := by decide +kernel
theorem fA_add1_12 : decode (m_cc M_A_add1) 12 = .ok (.iload_n 3, 1) := by decide +kernel
theorem fA_add1_13 : decode (m_cc M_A_add1) 13 = .ok (.aload_n 1, 1) := by decide +kernel
theorem fA_add1_14 : decode (m_cc M_A_add1) 14 = .ok (.aastore, 1) := by decide +kernel
theorem fA_add1_15 : decode (m_cc M_A_add1) 15 = .ok (.aload_n 0, 1) := by decide +kernel
theorem fA_add1_16 : decode (m_cc M_A_add1) 16 = .ok (.iload_n 3, 1) := by decide +kernel
theorem fA_add1_17 : decode (m_cc M_A_add1) 17 = .ok (.iconst 1, 1) := by decide +kernel
theorem fA_add1_18 : decode (m_cc M_A_add1) 18 = .ok (.iadd, 1) := by decide +kernel
theorem fA_add1_19 : decode (m_cc M_A_add1) 19 = .ok (.putfield 48, 3) := by decide +kernel
theorem fA_add1_22 : decode (m_cc M_A_add1) 22 = .ok (.return_, 1) := by decide +kernel
theorem fA_clear_0 : decode (m_cc M_A_clear) 0 = .ok (.aload_n 0, 1) := by decide +kernel
theorem fA_clear_1 : decode (m_cc M_A_clear) 1 = .ok (.dup, 1) := by decide +kernel
theorem fA_clear_2 : decode (m_cc M_A_clear) 2 = .ok (.getfield 63, 3) := by decide +kernel
theorem fA_clear_5 : decode (m_cc M_A_clear) 5 = .ok (.iconst 1, 1) := by decide +kernel
theorem fA_clear_6 : decode (m_cc M_A_clear) 6 = .ok (.iadd, 1) := by decide +kernel
theorem fA_clear_7 : decode (m_cc M_A_clear) 7 = .ok (.putfield 63, 3) := by decide +kernel
theorem fA_clear_10 : decode (m_cc M_A_clear) 10 = .ok (.aload_n 0, 1) := by decide +kernel
theorem fA_clear_11 : decode (m_cc M_A_clear) 11 = .ok (.getfield 9, 3) := by decide +kernel
theorem fA_clear_14 : decode (m_cc M_A_clear) 14 = .ok (.astore_n 1, 1) := by decide +kernel
theorem fA_clear_15 : decode (m_cc M_A_clear) 15 = .ok (.aload_n 0, 1) := by decide +kernel
theorem fA_clear_16 : decode (m_cc M_A_clear) 16 = .ok (.getfield 48, 3) := by decide +kernel
theorem fA_clear_19 : decode (m_cc M_A_clear) 19 = .ok (.istore_n 2, 1) := by decide +kernel
theorem fA_clear_20 : decode (m_cc M_A_clear) 20 = .ok (.aload_n 0, 1) := by decide +kernel
theorem fA_clear_21 : decode (m_cc M_A_clear) 21 = .ok (.iconst 0, 1) := by decide +kernel
theorem fA_clear_22 : decode (m_cc M_A_clear) 22 = .ok (.dup_x1, 1) := by decide +kernel
theorem fA_clear_23 : decode (m_cc M_A_clear) 23 = .ok (.putfield 48, 3) := by decide +kernel
theorem fA_clear_26 : decode (m_cc M_A_clear) 26 = .ok (.istore_n 3, 1) := by decide +kernel
theorem fA_clear_27 : decode (m_cc M_A_clear) 27 = .ok (.iload_n 3, 1) := by decide +kernel
theorem fA_clear_28 : decode (m_cc M_A_clear) 28 = .ok (.iload_n 2, 1) := by decide +kernel
theorem fA_clear_29 : decode (m_cc M_A_clear) 29 = .ok (.if_icmp .ge 13, 3) := by decide +kernel
theorem fA_clear_32 : decode (m_cc M_A_clear) 32 = .ok (.aload_n 1, 1) := by decide +kernel
theorem fA_clear_33 : decode (m_cc M_A_clear) 33 = .ok (.iload_n 3, 1) := by decide +kernel
theorem fA_clear_34 : decode (m_cc M_A_clear) 34 = .ok (.aconst_null, 1) := by decide +kernel
theorem fA_clear_35 : decode (m_cc M_A_clear) 35 = .ok (.aastore, 1) := by decide +kernel
theorem fA_clear_36 : decode (m_cc M_A_clear) 36 = .ok (.iinc 3 1, 3) := by decide +kernel
theorem fA_clear_39 : decode (m_cc M_A_clear) 39 = .ok (.goto (-12), 3) := by decide +kernel
theorem fA_clear_42 : decode (m_cc M_A_clear) 42 = .ok (.return_, 1) := by decide +kernel
theorem fA_elementData_0 : decode (m_cc M_A_elementData) 0 = .ok (.aload_n 0, 1) := by decide +kernel
theorem fA_elementData_1 : decode (m_cc M_A_elementData) 1 = .ok (.getfield 9, 3) := by decide +kernel
theorem fA_elementData_4 : decode (m_cc M_A_elementData) 4 = .ok (.iload_n 1, 1) := by decide +kernel
theorem fA_elementData_5 : decode (m_cc M_A_elementData) 5 = .ok (.aaload, 1) := by decide +kernel
theorem fA_elementData_6 : decode (m_cc M_A_elementData) 6 = .ok (.areturn, 1) := by decide +kernel
theorem fA_get_0 : decode (m_cc M_A_get) 0 = .ok (.iload_n 1, 1) := by decide +kernel
theorem fA_get_1 : decode (m_cc M_A_get) 1 = .ok (.aload_n 0, 1) := by decide +kernel
theorem fA_get_2 : decode (m_cc M_A_get) 2 = .ok (.getfield 48, 3) := by decide +kernel
theorem fA_get_5 : decode (m_cc M_A_get) 5 = .ok (.invokestatic 118, 3) := by decide +kernel
theorem fA_get_8 : decode (m_cc M_A_get) 8 = .ok (.pop, 1) := by decide +kernel
theorem fA_get_9 : decode (m_cc M_A_get) 9 = .ok (.aload_n 0, 1) := by decide +kernel
theorem fA_get_10 : decode (m_cc M_A_get) 10 = .ok (.iload_n 1, 1) := by decide +kernel
theorem fA_get_11 : decode (m_cc M_A_get) 11 = .ok (.invokevirtual 123, 3) := by decide +kernel
theorem fA_get_14 : decode (m_cc M_A_get) 14 = .ok (.areturn, 1) := by decide +kernel
theorem fA_grow0_0 : decode (m_cc M_A_grow0) 0 = .ok (.aload_n 0, 1) := by decide +kernel
theorem fA_grow0_1 : decode (m_cc M_A_grow0) 1 = .ok (.aload_n 0, 1) := by decide +kernel
theorem fA_grow0_2 : decode (m_cc M_A_grow0) 2 = .ok (.getfield 48, 3) := by decide +kernel
theorem fA_grow0_5 : decode (m_cc M_A_grow0) 5 = .ok (.iconst 1, 1) := by decide +kernel
theorem fA_grow0_6 : decode (m_cc M_A_grow0) 6 = .ok (.iadd, 1) := by decide +kernel
theorem fA_grow0_7 : decode (m_cc M_A_grow0) 7 = .ok (.invokevirtual 69, 3) := by decide +kernel
theorem fA_grow0_10 : decode (m_cc M_A_grow0) 10 = .ok (.areturn, 1) := by decide +kernel
theorem fA_grow1_0 : decode (m_cc M_A_grow1) 0 = .ok (.aload_n 0, 1) := by decide +kernel
theorem fA_grow1_1 : decode (m_cc M_A_grow1) 1 = .ok (.getfield 9, 3) := by decide +kernel
theorem fA_grow1_4 : decode (m_cc M_A_grow1) 4 = .ok (.arraylength, 1) := by decide +kernel
theorem fA_grow1_5 : decode (m_cc M_A_grow1) 5 = .ok (.istore_n 2, 1) := by decide +kernel
theorem fA_grow1_6 : decode (m_cc M_A_grow1) 6 = .ok (.iload_n 2, 1) := by decide +kernel
theorem fA_grow1_7 : decode (m_cc M_A_grow1) 7 = .ok (.ifCond .gt 13, 3) := by decide +kernel
theorem fA_grow1_10 : decode (m_cc M_A_grow1) 10 = .ok (.aload_n 0, 1) := by decide +kernel
theorem fA_grow1_11 : decode (m_cc M_A_grow1) 11 = .ok (.getfield 9, 3) := by decide +kernel
theorem fA_grow1_14 : decode (m_cc M_A_grow1) 14 = .ok (.getstatic 39, 3) := by decide +kernel
theorem fA_grow1_17 : decode (m_cc M_A_grow1) 17 = .ok (.if_acmp .eq 28, 3) := by decide +kernel
theorem fA_grow1_20 : decode (m_cc M_A_grow1) 20 = .ok (.iload_n 2, 1) := by decide +kernel
theorem fA_grow1_21 : decode (m_cc M_A_grow1) 21 = .ok (.iload_n 1, 1) := by decide +kernel
theorem fA_grow1_22 : decode (m_cc M_A_grow1) 22 = .ok (.iload_n 2, 1) := by decide +kernel
theorem fA_grow1_23 : decode (m_cc M_A_grow1) 23 = .ok (.isub, 1) := by decide +kernel
theorem fA_grow1_24 : decode (m_cc M_A_grow1) 24 = .ok (.iload_n 2, 1) := by decide +kernel
theorem fA_grow1_25 : decode (m_cc M_A_grow1) 25 = .ok (.iconst 1, 1) := by decide +kernel
theorem fA_grow1_26 : decode (m_cc M_A_grow1) 26 = .ok (.ishr, 1) := by decide +kernel
theorem fA_grow1_27 : decode (m_cc M_A_grow1) 27 = .ok (.invokestatic 73, 3) := by decide +kernel
theorem fA_grow1_30 : decode (m_cc M_A_grow1) 30 = .ok (.istore_n 3, 1) := by decide +kernel
theorem fA_grow1_31 : decode (m_cc M_A_grow1) 31 = .ok (.aload_n 0, 1) := by decide +kernel
theorem fA_grow1_32 : decode (m_cc M_A_grow1) 32 = .ok (.aload_n 0, 1) := by decide +kernel
theorem fA_grow1_33 : decode (m_cc M_A_grow1) 33 = .ok (.getfield 9, 3) := by decide +kernel
theorem fA_grow1_36 : decode (m_cc M_A_grow1) 36 = .ok (.iload_n 3, 1) := by decide +kernel
theorem fA_grow1_37 : decode (m_cc M_A_grow1) 37 = .ok (.invokestatic 66, 3) := by decide +kernel
theorem fA_grow1_40 : decode (m_cc M_A_grow1) 40 = .ok (.dup_x1, 1) := by decide +kernel
theorem fA_grow1_41 : decode (m_cc M_A_grow1) 41 = .ok (.putfield 9, 3) := by decide +kernel
theorem fA_grow1_44 : decode (m_cc M_A_grow1) 44 = .ok (.areturn, 1) := by decide +kernel
theorem fA_grow1_45 : decode (m_cc M_A_grow1) 45 = .ok (.aload_n 0, 1) := by decide +kernel
theorem fA_grow1_46 : decode (m_cc M_A_grow1) 46 = .ok (.bipush 10, 2) := by decide +kernel
theorem fA_grow1_48 : decode (m_cc M_A_grow1) 48 = .ok (.iload_n 1, 1) := by decide +kernel
theorem fA_grow1_49 : decode (m_cc M_A_grow1) 49 = .ok (.invokestatic 79, 3) := by decide +kernel
theorem fA_grow1_52 : decode (m_cc M_A_grow1) 52 = .ok (.anewarray 7, 3) := by decide +kernel
theorem fA_grow1_55 : decode (m_cc M_A_grow1) 55 = .ok (.dup_x1, 1) := by decide +kernel
theorem fA_grow1_56 : decode (m_cc M_A_grow1) 56 = .ok (.putfield 9, 3) := by decide +kernel
theorem fA_grow1_59 : decode (m_cc M_A_grow1) 59 = .ok (.areturn, 1) := by decide +kernel
theorem fA_size_0 : decode (m_cc M_A_size) 0 = .ok (.aload_n 0, 1) := by decide +kernel
theorem fA_size_1 : decode (m_cc M_A_size) 1 = .ok (.getfield 48, 3) := by decide +kernel
theorem fA_size_4 : decode (m_cc M_A_size) 4 = .ok (.ireturn, 1) := by decide +kernel
theorem fJa_copyOf0_0 : decode (m_cc M_Ja_copyOf0) 0 = .ok (.aload_n 0, 1) := by decide +kernel
theorem fJa_copyOf0_1 : decode (m_cc M_Ja_copyOf0) 1 = .ok (.iload_n 1, 1) := by decide +kernel
theorem fJa_copyOf0_2 : decode (m_cc M_Ja_copyOf0) 2 = .ok (.aload_n 0, 1) := by decide +kernel
theorem fJa_copyOf0_3 : decode (m_cc M_Ja_copyOf0) 3 = .ok (.invokevirtual 86, 3) := by decide +kernel
theorem fJa_copyOf0_6 : decode (m_cc M_Ja_copyOf0) 6 = .ok (.invokestatic 300, 3) := by decide +kernel
theorem fJa_copyOf0_9 : decode (m_cc M_Ja_copyOf0) 9 = .ok (.areturn, 1) := by decide +kernel
theorem fJa_copyOf1_0 : decode (m_cc M_Ja_copyOf1) 0 = .ok (.aload_n 2, 1) := by decide +kernel
theorem fJa_copyOf1_1 : decode (m_cc M_Ja_copyOf1) 1 = .ok (.ldc 110, 2) := by decide +kernel
theorem fJa_copyOf1_3 : decode (m_cc M_Ja_copyOf1) 3 = .ok (.if_acmp .ne 10, 3) := by decide +kernel
theorem fJa_copyOf1_6 : decode (m_cc M_Ja_copyOf1) 6 = .ok (.iload_n 1, 1) := by decide +kernel
theorem fJa_copyOf1_7 : decode (m_cc M_Ja_copyOf1) 7 = .ok (.anewarray 2, 3) := by decide +kernel
theorem fJa_copyOf1_10 : decode (m_cc M_Ja_copyOf1) 10 = .ok (.goto 14, 3) := by decide +kernel
theorem fJa_copyOf1_13 : decode (m_cc M_Ja_copyOf1) 13 = .ok (.aload_n 2, 1) := by decide +kernel
theorem fJa_copyOf1_14 : decode (m_cc M_Ja_copyOf1) 14 = .ok (.invokevirtual 90, 3) := by decide +kernel
theorem fJa_copyOf1_17 : decode (m_cc M_Ja_copyOf1) 17 = .ok (.iload_n 1, 1) := by decide +kernel
theorem fJa_copyOf1_18 : decode (m_cc M_Ja_copyOf1) 18 = .ok (.invokestatic 95, 3) := by decide +kernel
theorem fJa_copyOf1_21 : decode (m_cc M_Ja_copyOf1) 21 = .ok (.checkcast 110, 3) := by decide +kernel
theorem fJa_copyOf1_24 : decode (m_cc M_Ja_copyOf1) 24 = .ok (.astore_n 3, 1) := by decide +kernel
theorem fJa_copyOf1_25 : decode (m_cc M_Ja_copyOf1) 25 = .ok (.aload_n 0, 1) := by decide +kernel
theorem fJa_copyOf1_26 : decode (m_cc M_Ja_copyOf1) 26 = .ok (.iconst 0, 1) := by decide +kernel
theorem fJa_copyOf1_27 : decode (m_cc M_Ja_copyOf1) 27 = .ok (.aload_n 3, 1) := by decide +kernel
theorem fJa_copyOf1_28 : decode (m_cc M_Ja_copyOf1) 28 = .ok (.iconst 0, 1) := by decide +kernel
theorem fJa_copyOf1_29 : decode (m_cc M_Ja_copyOf1) 29 = .ok (.aload_n 0, 1) := by decide +kernel
theorem fJa_copyOf1_30 : decode (m_cc M_Ja_copyOf1) 30 = .ok (.arraylength, 1) := by decide +kernel
theorem fJa_copyOf1_31 : decode (m_cc M_Ja_copyOf1) 31 = .ok (.iload_n 1, 1) := by decide +kernel
theorem fJa_copyOf1_32 : decode (m_cc M_Ja_copyOf1) 32 = .ok (.invokestatic 304, 3) := by decide +kernel
theorem fJa_copyOf1_35 : decode (m_cc M_Ja_copyOf1) 35 = .ok (.invokestatic 150, 3) := by decide +kernel
theorem fJa_copyOf1_38 : decode (m_cc M_Ja_copyOf1) 38 = .ok (.aload_n 3, 1) := by decide +kernel
theorem fJa_copyOf1_39 : decode (m_cc M_Ja_copyOf1) 39 = .ok (.areturn, 1) := by decide +kernel
theorem fJo_checkIndex_0 : decode (m_cc M_Jo_checkIndex) 0 = .ok (.iload_n 0, 1) := by decide +kernel
theorem fJo_checkIndex_1 : decode (m_cc M_Jo_checkIndex) 1 = .ok (.iload_n 1, 1) := by decide +kernel
theorem fJo_checkIndex_2 : decode (m_cc M_Jo_checkIndex) 2 = .ok (.aconst_null, 1) := by decide +kernel
theorem fJo_checkIndex_3 : decode (m_cc M_Jo_checkIndex) 3 = .ok (.invokestatic 105, 3) := by decide +kernel
theorem fJo_checkIndex_6 : decode (m_cc M_Jo_checkIndex) 6 = .ok (.ireturn, 1) := by decide +kernel
theorem fJs_newLength_0 : decode (m_cc M_Js_newLength) 0 = .ok (.iload_n 0, 1) := by decide +kernel
theorem fJs_newLength_1 : decode (m_cc M_Js_newLength) 1 = .ok (.iload_n 1, 1) := by decide +kernel
theorem fJs_newLength_2 : decode (m_cc M_Js_newLength) 2 = .ok (.iload_n 2, 1) := by decide +kernel
theorem fJs_newLength_3 : decode (m_cc M_Js_newLength) 3 = .ok (.invokestatic 194, 3) := by decide +kernel
theorem fJs_newLength_6 : decode (m_cc M_Js_newLength) 6 = .ok (.iadd, 1) := by decide +kernel
theorem fJs_newLength_7 : decode (m_cc M_Js_newLength) 7 = .ok (.istore_n 3, 1) := by decide +kernel
theorem fJs_newLength_8 : decode (m_cc M_Js_newLength) 8 = .ok (.iconst 0, 1) := by decide +kernel
theorem fJs_newLength_9 : decode (m_cc M_Js_newLength) 9 = .ok (.iload_n 3, 1) := by decide +kernel
theorem fJs_newLength_10 : decode (m_cc M_Js_newLength) 10 = .ok (.if_icmp .ge 11, 3) := by decide +kernel
theorem fJs_newLength_13 : decode (m_cc M_Js_newLength) 13 = .ok (.iload_n 3, 1) := by decide +kernel
theorem fJs_newLength_14 : decode (m_cc M_Js_newLength) 14 = .ok (.ldc 200, 2) := by decide +kernel
theorem fJs_newLength_16 : decode (m_cc M_Js_newLength) 16 = .ok (.if_icmp .gt 5, 3) := by decide +kernel
theorem fJs_newLength_19 : decode (m_cc M_Js_newLength) 19 = .ok (.iload_n 3, 1) := by decide +kernel
theorem fJs_newLength_20 : decode (m_cc M_Js_newLength) 20 = .ok (.ireturn, 1) := by decide +kernel
theorem fJs_newLength_21 : decode (m_cc M_Js_newLength) 21 = .ok (.iload_n 0, 1) := by decide +kernel
theorem fJs_newLength_22 : decode (m_cc M_Js_newLength) 22 = .ok (.iload_n 1, 1) := by decide +kernel
theorem fJs_newLength_23 : decode (m_cc M_Js_newLength) 23 = .ok (.invokestatic 201, 3) := by decide +kernel
theorem fJs_newLength_26 : decode (m_cc M_Js_newLength) 26 = .ok (.ireturn, 1) := by decide +kernel
theorem fJp_checkIndex_0 : decode (m_cc M_Jp_checkIndex) 0 = .ok (.iload_n 0, 1) := by decide +kernel
theorem fJp_checkIndex_1 : decode (m_cc M_Jp_checkIndex) 1 = .ok (.ifCond .lt 8, 3) := by decide +kernel
theorem fJp_checkIndex_4 : decode (m_cc M_Jp_checkIndex) 4 = .ok (.iload_n 0, 1) := by decide +kernel
theorem fJp_checkIndex_5 : decode (m_cc M_Jp_checkIndex) 5 = .ok (.iload_n 1, 1) := by decide +kernel
theorem fJp_checkIndex_6 : decode (m_cc M_Jp_checkIndex) 6 = .ok (.if_icmp .lt 10, 3) := by decide +kernel
theorem fJp_checkIndex_9 : decode (m_cc M_Jp_checkIndex) 9 = .ok (.aload_n 2, 1) := by decide +kernel
theorem fJp_checkIndex_10 : decode (m_cc M_Jp_checkIndex) 10 = .ok (.iload_n 0, 1) := by decide +kernel
theorem fJp_checkIndex_11 : decode (m_cc M_Jp_checkIndex) 11 = .ok (.iload_n 1, 1) := by decide +kernel
theorem fJp_checkIndex_12 : decode (m_cc M_Jp_checkIndex) 12 = .ok (.invokestatic 95, 3) := by decide +kernel
theorem fJp_checkIndex_15 : decode (m_cc M_Jp_checkIndex) 15 = .ok (.athrow, 1) := by decide +kernel
theorem fJp_checkIndex_16 : decode (m_cc M_Jp_checkIndex) 16 = .ok (.iload_n 0, 1) := by decide +kernel
theorem fJp_checkIndex_17 : decode (m_cc M_Jp_checkIndex) 17 = .ok (.ireturn, 1) := by decide +kernel
