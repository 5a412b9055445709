/-! THE LAW: names, decoded -/
def M_W_law : ev_M := (⟨"OrderRows3Law", "law", "([I)Z"⟩, code, 8, some .boolean, (12, 462, 601024, 7293034), [])
theorem fW_order_0 : decode (m_cc M_W_order) 0 = .ok (.aload 5, 2) := by decide +kernel
theorem fW_order_2 : decode (m_cc M_W_order) 2 = .ok (.iconst 0, 1) := by decide +kernel
theorem fW_order_3 : decode (m_cc M_W_order) 3 = .ok (.aload_n 0, 1) := by decide +kernel
theorem fW_order_4 : decode (m_cc M_W_order) 4 = .ok (.iload_n 1, 1) := by decide +kernel
theorem fW_order_5 : decode (m_cc M_W_order) 5 = .ok (.iload_n 2, 1) := by decide +kernel
theorem fW_order_6 : decode (m_cc M_W_order) 6 = .ok (.iload_n 3, 1) := by decide +kernel
theorem fW_order_7 : decode (m_cc M_W_order) 7 = .ok (.iload 4, 2) := by decide +kernel
theorem fW_order_9 : decode (m_cc M_W_order) 9 = .ok (.invokevirtual 7, 3) := by decide +kernel
theorem fW_order_12 : decode (m_cc M_W_order) 12 = .ok (.i2l, 1) := by decide +kernel
theorem fW_order_13 : decode (m_cc M_W_order) 13 = .ok (.lastore, 1) := by decide +kernel
theorem fW_order_14 : decode (m_cc M_W_order) 14 = .ok (.goto 11, 3) := by decide +kernel
theorem fW_order_17 : decode (m_cc M_W_order) 17 = .ok (.astore 6, 2) := by decide +kernel
theorem fW_order_19 : decode (m_cc M_W_order) 19 = .ok (.iconst 1, 1) := by decide +kernel
theorem fW_order_20 : decode (m_cc M_W_order) 20 = .ok (.ireturn, 1) := by decide +kernel
theorem fW_order_21 : decode (m_cc M_W_order) 21 = .ok (.astore 6, 2) := by decide +kernel
theorem fW_order_23 : decode (m_cc M_W_order) 23 = .ok (.iconst 2, 1) := by decide +kernel
theorem fW_order_24 : decode (m_cc M_W_order) 24 = .ok (.ireturn, 1) := by decide +kernel
theorem fW_order_25 : decode (m_cc M_W_order) 25 = .ok (.iconst 0, 1) := by decide +kernel
theorem fW_order_26 : decode (m_cc M_W_order) 26 = .ok (.ireturn, 1) := by decide +kernel
theorem fW_line_0 : decode (m_cc M_W_line) 0 = .ok (.aload 5, 2) := by decide +kernel
theorem fW_line_2 : decode (m_cc M_W_line) 2 = .ok (.iconst 0, 1) := by decide +kernel
theorem fW_line_3 : decode (m_cc M_W_line) 3 = .ok (.aload_n 0, 1) := by decide +kernel
theorem fW_line_4 : decode (m_cc M_W_line) 4 = .ok (.iload_n 1, 1) := by decide +kernel
theorem fW_line_5 : decode (m_cc M_W_line) 5 = .ok (.iload_n 2, 1) := by decide +kernel
theorem fW_line_6 : decode (m_cc M_W_line) 6 = .ok (.iload_n 3, 1) := by decide +kernel
theorem fW_line_7 : decode (m_cc M_W_line) 7 = .ok (.iload 4, 2) := by decide +kernel
theorem fW_line_9 : decode (m_cc M_W_line) 9 = .ok (.invokevirtual 17, 3) := by decide +kernel
theorem fW_line_12 : decode (m_cc M_W_line) 12 = .ok (.i2l, 1) := by decide +kernel
theorem fW_line_13 : decode (m_cc M_W_line) 13 = .ok (.lastore, 1) := by decide +kernel
theorem fW_line_14 : decode (m_cc M_W_line) 14 = .ok (.goto 19, 3) := by decide +kernel
theorem fW_line_17 : decode (m_cc M_W_line) 17 = .ok (.astore 6, 2) := by decide +kernel
theorem fW_line_19 : decode (m_cc M_W_line) 19 = .ok (.iconst 1, 1) := by decide +kernel
theorem fW_line_20 : decode (m_cc M_W_line) 20 = .ok (.ireturn, 1) := by decide +kernel
theorem fW_line_21 : decode (m_cc M_W_line) 21 = .ok (.astore 6, 2) := by decide +kernel
theorem fW_line_23 : decode (m_cc M_W_line) 23 = .ok (.iconst 2, 1) := by decide +kernel
theorem fW_line_24 : decode (m_cc M_W_line) 24 = .ok (.ireturn, 1) := by decide +kernel
theorem fW_line_25 : decode (m_cc M_W_line) 25 = .ok (.astore 6, 2) := by decide +kernel
theorem fW_line_27 : decode (m_cc M_W_line) 27 = .ok (.iconst 3, 1) := by decide +kernel
theorem fW_line_28 : decode (m_cc M_W_line) 28 = .ok (.ireturn, 1) := by decide +kernel
theorem fW_line_29 : decode (m_cc M_W_line) 29 = .ok (.astore 6, 2) := by decide +kernel
theorem fW_line_31 : decode (m_cc M_W_line) 31 = .ok (.iconst 4, 1) := by decide +kernel
theorem fW_line_32 : decode (m_cc M_W_line) 32 = .ok (.ireturn, 1) := by decide +kernel
theorem fW_line_33 : decode (m_cc M_W_line) 33 = .ok (.iconst 0, 1) := by decide +kernel
theorem fW_line_34 : decode (m_cc M_W_line) 34 = .ok (.ireturn, 1) := by decide +kernel
theorem fW_hold_0 : decode (m_cc M_W_hold) 0 = .ok (.aload_n 3, 1) := by decide +kernel
theorem fW_hold_1 : decode (m_cc M_W_hold) 1 = .ok (.iconst 0, 1) := by decide +kernel
theorem fW_hold_2 : decode (m_cc M_W_hold) 2 = .ok (.aload_n 0, 1) := by decide +kernel
theorem fW_hold_3 : decode (m_cc M_W_hold) 3 = .ok (.iload_n 1, 1) := by decide +kernel
theorem fW_hold_4 : decode (m_cc M_W_hold) 4 = .ok (.iload_n 2, 1) := by decide +kernel
theorem fW_hold_5 : decode (m_cc M_W_hold) 5 = .ok (.invokevirtual 24, 3) := by decide +kernel
theorem fW_hold_8 : decode (m_cc M_W_hold) 8 = .ok (.i2l, 1) := by decide +kernel
theorem fW_hold_9 : decode (m_cc M_W_hold) 9 = .ok (.lastore, 1) := by decide +kernel
theorem fW_hold_10 : decode (m_cc M_W_hold) 10 = .ok (.goto 15, 3) := by decide +kernel
theorem fW_hold_13 : decode (m_cc M_W_hold) 13 = .ok (.astore 4, 2) := by decide +kernel
theorem fW_hold_15 : decode (m_cc M_W_hold) 15 = .ok (.iconst 1, 1) := by decide +kernel
theorem fW_hold_16 : decode (m_cc M_W_hold) 16 = .ok (.ireturn, 1) := by decide +kernel
theorem fW_hold_17 : decode (m_cc M_W_hold) 17 = .ok (.astore 4, 2) := by decide +kernel
theorem fW_hold_19 : decode (m_cc M_W_hold) 19 = .ok (.iconst 2, 1) := by decide +kernel
theorem fW_hold_20 : decode (m_cc M_W_hold) 20 = .ok (.ireturn, 1) := by decide +kernel
theorem fW_hold_21 : decode (m_cc M_W_hold) 21 = .ok (.astore 4, 2) := by decide +kernel
theorem fW_hold_23 : decode (m_cc M_W_hold) 23 = .ok (.iconst 3, 1) := by decide +kernel
theorem fW_hold_24 : decode (m_cc M_W_hold) 24 = .ok (.ireturn, 1) := by decide +kernel
theorem fW_hold_25 : decode (m_cc M_W_hold) 25 = .ok (.iconst 0, 1) := by decide +kernel
theorem fW_hold_26 : decode (m_cc M_W_hold) 26 = .ok (.ireturn, 1) := by decide +kernel
theorem fW_pick_0 : decode (m_cc M_W_pick) 0 = .ok (.aload_n 3, 1) := by decide +kernel
theorem fW_pick_1 : decode (m_cc M_W_pick) 1 = .ok (.iconst 0, 1) := by decide +kernel
theorem fW_pick_2 : decode (m_cc M_W_pick) 2 = .ok (.aload_n 0, 1) := by decide +kernel
theorem fW_pick_3 : decode (m_cc M_W_pick) 3 = .ok (.iload_n 1, 1) := by decide +kernel
theorem fW_pick_4 : decode (m_cc M_W_pick) 4 = .ok (.iload_n 2, 1) := by decide +kernel
theorem fW_pick_5 : decode (m_cc M_W_pick) 5 = .ok (.invokevirtual 28, 3) := by decide +kernel
theorem fW_pick_8 : decode (m_cc M_W_pick) 8 = .ok (.i2l, 1) := by decide +kernel
theorem fW_pick_9 : decode (m_cc M_W_pick) 9 = .ok (.lastore, 1) := by decide +kernel
theorem fW_pick_10 : decode (m_cc M_W_pick) 10 = .ok (.goto 15, 3) := by decide +kernel
theorem fW_pick_13 : decode (m_cc M_W_pick) 13 = .ok (.astore 4, 2) := by decide +kernel
theorem fW_pick_15 : decode (m_cc M_W_pick) 15 = .ok (.iconst 1, 1) := by decide +kernel
theorem fW_pick_16 : decode (m_cc M_W_pick) 16 = .ok (.ireturn, 1) := by decide +kernel
theorem fW_pick_17 : decode (m_cc M_W_pick) 17 = .ok (.astore 4, 2) := by decide +kernel
theorem fW_pick_19 : decode (m_cc M_W_pick) 19 = .ok (.iconst 2, 1) := by decide +kernel
theorem fW_pick_20 : decode (m_cc M_W_pick) 20 = .ok (.ireturn, 1) := by decide +kernel
theorem fW_pick_21 : decode (m_cc M_W_pick) 21 = .ok (.astore 4, 2) := by decide +kernel
theorem fW_pick_23 : decode (m_cc M_W_pick) 23 = .ok (.iconst 3, 1) := by decide +kernel
theorem fW_pick_24 : decode (m_cc M_W_pick) 24 = .ok (.ireturn, 1) := by decide +kernel
theorem fW_pick_25 : decode (m_cc M_W_pick) 25 = .ok (.iconst 0, 1) := by decide +kernel
theorem fW_pick_26 : decode (m_cc M_W_pick) 26 = .ok (.ireturn, 1) := by decide +kernel
theorem fW_goOn_0 : decode (m_cc M_W_goOn) 0 = .ok (.aload_n 2, 1) := by decide +kernel
theorem fW_goOn_1 : decode (m_cc M_W_goOn) 1 = .ok (.iconst 0, 1) := by decide +kernel
theorem fW_goOn_2 : decode (m_cc M_W_goOn) 2 = .ok (.aload_n 0, 1) := by decide +kernel
theorem fW_goOn_3 : decode (m_cc M_W_goOn) 3 = .ok (.iload_n 1, 1) := by decide +kernel
theorem fW_goOn_4 : decode (m_cc M_W_goOn) 4 = .ok (.invokevirtual 31, 3) := by decide +kernel
theorem fW_goOn_7 : decode (m_cc M_W_goOn) 7 = .ok (.i2l, 1) := by decide +kernel
theorem fW_goOn_8 : decode (m_cc M_W_goOn) 8 = .ok (.lastore, 1) := by decide +kernel
theorem fW_goOn_9 : decode (m_cc M_W_goOn) 9 = .ok (.goto 9, 3) := by decide +kernel
theorem fW_goOn_12 : decode (m_cc M_W_goOn) 12 = .ok (.astore_n 3, 1) := by decide +kernel
theorem fW_goOn_13 : decode (m_cc M_W_goOn) 13 = .ok (.iconst 1, 1) := by decide +kernel
theorem fW_goOn_14 : decode (m_cc M_W_goOn) 14 = .ok (.ireturn, 1) := by decide +kernel
theorem fW_goOn_15 : decode (m_cc M_W_goOn) 15 = .ok (.astore_n 3, 1) := by decide +kernel
theorem fW_goOn_16 : decode (m_cc M_W_goOn) 16 = .ok (.iconst 2, 1) := by decide +kernel
theorem fW_goOn_17 : decode (m_cc M_W_goOn) 17 = .ok (.ireturn, 1) := by decide +kernel
theorem fW_goOn_18 : decode (m_cc M_W_goOn) 18 = .ok (.iconst 0, 1) := by decide +kernel
theorem fW_goOn_19 : decode (m_cc M_W_goOn) 19 = .ok (.ireturn, 1) := by decide +kernel
theorem fW_change_0 : decode (m_cc M_W_change) 0 = .ok (.aload 4, 2) := by decide +kernel
theorem fW_change_2 : decode (m_cc M_W_change) 2 = .ok (.iconst 0, 1) := by decide +kernel
theorem fW_change_3 : decode (m_cc M_W_change) 3 = .ok (.aload_n 0, 1) := by decide +kernel
theorem fW_change_4 : decode (m_cc M_W_change) 4 = .ok (.iload_n 1, 1) := by decide +kernel
theorem fW_change_5 : decode (m_cc M_W_change) 5 = .ok (.iload_n 2, 1) := by decide +kernel
theorem fW_change_6 : decode (m_cc M_W_change) 6 = .ok (.iload_n 3, 1) := by decide +kernel
theorem fW_change_7 : decode (m_cc M_W_change) 7 = .ok (.invokevirtual 35, 3) := by decide +kernel
theorem fW_change_10 : decode (m_cc M_W_change) 10 = .ok (.ifCond .eq 7, 3) := by decide +kernel
theorem fW_change_13 : decode (m_cc M_W_change) 13 = .ok (.lconst 1, 1) := by decide +kernel
theorem fW_change_14 : decode (m_cc M_W_change) 14 = .ok (.goto 4, 3) := by decide +kernel
theorem fW_change_17 : decode (m_cc M_W_change) 17 = .ok (.lconst 0, 1) := by decide +kernel
theorem fW_change_18 : decode (m_cc M_W_change) 18 = .ok (.lastore, 1) := by decide +kernel
theorem fW_change_19 : decode (m_cc M_W_change) 19 = .ok (.goto 15, 3) := by decide +kernel
theorem fW_change_22 : decode (m_cc M_W_change) 22 = .ok (.astore 5, 2) := by decide +kernel
theorem fW_change_24 : decode (m_cc M_W_change) 24 = .ok (.iconst 1, 1) := by decide +kernel
theorem fW_change_25 : decode (m_cc M_W_change) 25 = .ok (.ireturn, 1) := by decide +kernel
theorem fW_change_26 : decode (m_cc M_W_change) 26 = .ok (.astore 5, 2) := by decide +kernel
theorem fW_change_28 : decode (m_cc M_W_change) 28 = .ok (.iconst 2, 1) := by decide +kernel
theorem fW_change_29 : decode (m_cc M_W_change) 29 = .ok (.ireturn, 1) := by decide +kernel
theorem fW_change_30 : decode (m_cc M_W_change) 30 = .ok (.astore 5, 2) := by decide +kernel
theorem fW_change_32 : decode (m_cc M_W_change) 32 = .ok (.iconst 3, 1) := by decide +kernel
theorem fW_change_33 : decode (m_cc M_W_change) 33 = .ok (.ireturn, 1) := by decide +kernel
theorem fW_change_34 : decode (m_cc M_W_change) 34 = .ok (.iconst 0, 1) := by decide +kernel
theorem fW_change_35 : decode (m_cc M_W_change) 35 = .ok (.ireturn, 1) := by decide +kernel
theorem fW_move_0 : decode (m_cc M_W_move) 0 = .ok (.aload_n 3, 1) := by decide +kernel
theorem fW_move_1 : decode (m_cc M_W_move) 1 = .ok (.iconst 0, 1) := by decide +kernel
theorem fW_move_2 : decode (m_cc M_W_move) 2 = .ok (.aload_n 0, 1) := by decide +kernel
theorem fW_move_3 : decode (m_cc M_W_move) 3 = .ok (.iload_n 1, 1) := by decide +kernel
theorem fW_move_4 : decode (m_cc M_W_move) 4 = .ok (.iload_n 2, 1) := by decide +kernel
theorem fW_move_5 : decode (m_cc M_W_move) 5 = .ok (.invokevirtual 39, 3) := by decide +kernel
theorem fW_move_8 : decode (m_cc M_W_move) 8 = .ok (.ifCond .eq 7, 3) := by decide +kernel
theorem fW_move_11 : decode (m_cc M_W_move) 11 = .ok (.lconst 1, 1) := by decide +kernel
theorem fW_move_12 : decode (m_cc M_W_move) 12 = .ok (.goto 4, 3) := by decide +kernel
theorem fW_move_15 : decode (m_cc M_W_move) 15 = .ok (.lconst 0, 1) := by decide +kernel
theorem fW_move_16 : decode (m_cc M_W_move) 16 = .ok (.lastore, 1) := by decide +kernel
theorem fW_move_17 : decode (m_cc M_W_move) 17 = .ok (.goto 11, 3) := by decide +kernel
theorem fW_move_20 : decode (m_cc M_W_move) 20 = .ok (.astore 4, 2) := by decide +kernel
theorem fW_move_22 : decode (m_cc M_W_move) 22 = .ok (.iconst 1, 1) := by decide +kernel
theorem fW_move_23 : decode (m_cc M_W_move) 23 = .ok (.ireturn, 1) := by decide +kernel
theorem fW_move_24 : decode (m_cc M_W_move) 24 = .ok (.astore 4, 2) := by decide +kernel
theorem fW_move_26 : decode (m_cc M_W_move) 26 = .ok (.iconst 2, 1) := by decide +kernel
theorem fW_move_27 : decode (m_cc M_W_move) 27 = .ok (.ireturn, 1) := by decide +kernel
theorem fW_move_28 : decode (m_cc M_W_move) 28 = .ok (.iconst 0, 1) := by decide +kernel
theorem fW_move_29 : decode (m_cc M_W_move) 29 = .ok (.ireturn, 1) := by decide +kernel
theorem fW_cancel_0 : decode (m_cc M_W_cancel) 0 = .ok (.aload_n 2, 1) := by decide +kernel
theorem fW_cancel_1 : decode (m_cc M_W_cancel) 1 = .ok (.iconst 0, 1) := by decide +kernel
theorem fW_cancel_2 : decode (m_cc M_W_cancel) 2 = .ok (.aload_n 0, 1) := by decide +kernel
theorem fW_cancel_3 : decode (m_cc M_W_cancel) 3 = .ok (.iload_n 1, 1) := by decide +kernel
theorem fW_cancel_4 : decode (m_cc M_W_cancel) 4 = .ok (.invokevirtual 43, 3) := by decide +kernel
theorem fW_cancel_7 : decode (m_cc M_W_cancel) 7 = .ok (.i2l, 1) := by decide +kernel
theorem fW_cancel_8 : decode (m_cc M_W_cancel) 8 = .ok (.lastore, 1) := by decide +kernel
theorem fW_cancel_9 : decode (m_cc M_W_cancel) 9 = .ok (.goto 9, 3) := by decide +kernel
theorem fW_cancel_12 : decode (m_cc M_W_cancel) 12 = .ok (.astore_n 3, 1) := by decide +kernel
theorem fW_cancel_13 : decode (m_cc M_W_cancel) 13 = .ok (.iconst 1, 1) := by decide +kernel
theorem fW_cancel_14 : decode (m_cc M_W_cancel) 14 = .ok (.ireturn, 1) := by decide +kernel
theorem fW_cancel_15 : decode (m_cc M_W_cancel) 15 = .ok (.astore_n 3, 1) := by decide +kernel
theorem fW_cancel_16 : decode (m_cc M_W_cancel) 16 = .ok (.iconst 2, 1) := by decide +kernel
theorem fW_cancel_17 : decode (m_cc M_W_cancel) 17 = .ok (.ireturn, 1) := by decide +kernel
theorem fW_cancel_18 : decode (m_cc M_W_cancel) 18 = .ok (.iconst 0, 1) := by decide +kernel
theorem fW_cancel_19 : decode (m_cc M_W_cancel) 19 = .ok (.ireturn, 1) := by decide +kernel
theorem fW_join_0 : decode (m_cc M_W_join) 0 = .ok (.aload_n 0, 1) := by decide +kernel
theorem fW_join_1 : decode (m_cc M_W_join) 1 = .ok (.iload_n 1, 1) := by decide +kernel
theorem fW_join_2 : decode (m_cc M_W_join) 2 = .ok (.iload_n 2, 1) := by decide +kernel
theorem fW_join_3 : decode (m_cc M_W_join) 3 = .ok (.invokevirtual 46, 3) := by decide +kernel
theorem fW_join_6 : decode (m_cc M_W_join) 6 = .ok (.goto 12, 3) := by decide +kernel
theorem fW_join_9 : decode (m_cc M_W_join) 9 = .ok (.astore_n 3, 1) := by decide +kernel
theorem fW_join_10 : decode (m_cc M_W_join) 10 = .ok (.iconst 1, 1) := by decide +kernel
theorem fW_join_11 : decode (m_cc M_W_join) 11 = .ok (.ireturn, 1) := by decide +kernel
theorem fW_join_12 : decode (m_cc M_W_join) 12 = .ok (.astore_n 3, 1) := by decide +kernel
theorem fW_join_13 : decode (m_cc M_W_join) 13 = .ok (.iconst 2, 1) := by decide +kernel
theorem fW_join_14 : decode (m_cc M_W_join) 14 = .ok (.ireturn, 1) := by decide +kernel
theorem fW_join_15 : decode (m_cc M_W_join) 15 = .ok (.astore_n 3, 1) := by decide +kernel
theorem fW_join_16 : decode (m_cc M_W_join) 16 = .ok (.iconst 3, 1) := by decide +kernel
theorem fW_join_17 : decode (m_cc M_W_join) 17 = .ok (.ireturn, 1) := by decide +kernel
theorem fW_join_18 : decode (m_cc M_W_join) 18 = .ok (.iconst 0, 1) := by decide +kernel
theorem fW_join_19 : decode (m_cc M_W_join) 19 = .ok (.ireturn, 1) := by decide +kernel
theorem fW_block_0 : decode (m_cc M_W_block) 0 = .ok (.aload 4, 2) := by decide +kernel
theorem fW_block_2 : decode (m_cc M_W_block) 2 = .ok (.iconst 0, 1) := by decide +kernel
theorem fW_block_3 : decode (m_cc M_W_block) 3 = .ok (.aload_n 0, 1) := by decide +kernel
theorem fW_block_4 : decode (m_cc M_W_block) 4 = .ok (.iload_n 1, 1) := by decide +kernel
theorem fW_block_5 : decode (m_cc M_W_block) 5 = .ok (.iload_n 2, 1) := by decide +kernel
theorem fW_block_6 : decode (m_cc M_W_block) 6 = .ok (.iload_n 3, 1) := by decide +kernel
theorem fW_block_7 : decode (m_cc M_W_block) 7 = .ok (.invokevirtual 50, 3) := by decide +kernel
theorem fW_block_10 : decode (m_cc M_W_block) 10 = .ok (.i2l, 1) := by decide +kernel
theorem fW_block_11 : decode (m_cc M_W_block) 11 = .ok (.lastore, 1) := by decide +kernel
theorem fW_block_12 : decode (m_cc M_W_block) 12 = .ok (.goto 15, 3) := by decide +kernel
theorem fW_block_15 : decode (m_cc M_W_block) 15 = .ok (.astore 5, 2) := by decide +kernel
theorem fW_block_17 : decode (m_cc M_W_block) 17 = .ok (.iconst 1, 1) := by decide +kernel
theorem fW_block_18 : decode (m_cc M_W_block) 18 = .ok (.ireturn, 1) := by decide +kernel
theorem fW_block_19 : decode (m_cc M_W_block) 19 = .ok (.astore 5, 2) := by decide +kernel
theorem fW_block_21 : decode (m_cc M_W_block) 21 = .ok (.iconst 2, 1) := by decide +kernel
theorem fW_block_22 : decode (m_cc M_W_block) 22 = .ok (.ireturn, 1) := by decide +kernel
theorem fW_block_23 : decode (m_cc M_W_block) 23 = .ok (.astore 5, 2) := by decide +kernel
theorem fW_block_25 : decode (m_cc M_W_block) 25 = .ok (.iconst 3, 1) := by decide +kernel
theorem fW_block_26 : decode (m_cc M_W_block) 26 = .ok (.ireturn, 1) := by decide +kernel
theorem fW_block_27 : decode (m_cc M_W_block) 27 = .ok (.iconst 0, 1) := by decide +kernel
theorem fW_block_28 : decode (m_cc M_W_block) 28 = .ok (.ireturn, 1) := by decide +kernel
theorem fW_backorder_0 : decode (m_cc M_W_backorder) 0 = .ok (.aload_n 2, 1) := by decide +kernel
theorem fW_backorder_1 : decode (m_cc M_W_backorder) 1 = .ok (.iconst 0, 1) := by decide +kernel
theorem fW_backorder_2 : decode (m_cc M_W_backorder) 2 = .ok (.aload_n 0, 1) := by decide +kernel
theorem fW_backorder_3 : decode (m_cc M_W_backorder) 3 = .ok (.iload_n 1, 1) := by decide +kernel
theorem fW_backorder_4 : decode (m_cc M_W_backorder) 4 = .ok (.invokevirtual 54, 3) := by decide +kernel
theorem fW_backorder_7 : decode (m_cc M_W_backorder) 7 = .ok (.i2l, 1) := by decide +kernel
theorem fW_backorder_8 : decode (m_cc M_W_backorder) 8 = .ok (.lastore, 1) := by decide +kernel
theorem fW_backorder_9 : decode (m_cc M_W_backorder) 9 = .ok (.goto 12, 3) := by decide +kernel
theorem fW_backorder_12 : decode (m_cc M_W_backorder) 12 = .ok (.astore_n 3, 1) := by decide +kernel
theorem fW_backorder_13 : decode (m_cc M_W_backorder) 13 = .ok (.iconst 1, 1) := by decide +kernel
theorem fW_backorder_14 : decode (m_cc M_W_backorder) 14 = .ok (.ireturn, 1) := by decide +kernel
theorem fW_backorder_15 : decode (m_cc M_W_backorder) 15 = .ok (.astore_n 3, 1) := by decide +kernel
theorem fW_backorder_16 : decode (m_cc M_W_backorder) 16 = .ok (.iconst 2, 1) := by decide +kernel
theorem fW_backorder_17 : decode (m_cc M_W_backorder) 17 = .ok (.ireturn, 1) := by decide +kernel
theorem fW_backorder_18 : decode (m_cc M_W_backorder) 18 = .ok (.astore_n 3, 1) := by decide +kernel
theorem fW_backorder_19 : decode (m_cc M_W_backorder) 19 = .ok (.iconst 3, 1) := by decide +kernel
theorem fW_backorder_20 : decode (m_cc M_W_backorder) 20 = .ok (.ireturn, 1) := by decide +kernel
theorem fW_backorder_21 : decode (m_cc M_W_backorder) 21 = .ok (.iconst 0, 1) := by decide +kernel
theorem fW_backorder_22 : decode (m_cc M_W_backorder) 22 = .ok (.ireturn, 1) := by decide +kernel
theorem fW_ready_0 : decode (m_cc M_W_ready) 0 = .ok (.aload_n 2, 1) := by decide +kernel
theorem fW_ready_1 : decode (m_cc M_W_ready) 1 = .ok (.iconst 0, 1) := by decide +kernel
theorem fW_ready_2 : decode (m_cc M_W_ready) 2 = .ok (.aload_n 0, 1) := by decide +kernel
theorem fW_ready_3 : decode (m_cc M_W_ready) 3 = .ok (.iload_n 1, 1) := by decide +kernel
theorem fW_ready_4 : decode (m_cc M_W_ready) 4 = .ok (.invokevirtual 57, 3) := by decide +kernel
theorem fW_ready_7 : decode (m_cc M_W_ready) 7 = .ok (.i2l, 1) := by decide +kernel
theorem fW_ready_8 : decode (m_cc M_W_ready) 8 = .ok (.lastore, 1) := by decide +kernel
theorem fW_ready_9 : decode (m_cc M_W_ready) 9 = .ok (.goto 6, 3) := by decide +kernel
theorem fW_ready_12 : decode (m_cc M_W_ready) 12 = .ok (.astore_n 3, 1) := by decide +kernel
theorem fW_ready_13 : decode (m_cc M_W_ready) 13 = .ok (.iconst 1, 1) := by decide +kernel
theorem fW_ready_14 : decode (m_cc M_W_ready) 14 = .ok (.ireturn, 1) := by decide +kernel
theorem fW_ready_15 : decode (m_cc M_W_ready) 15 = .ok (.iconst 0, 1) := by decide +kernel
theorem fW_ready_16 : decode (m_cc M_W_ready) 16 = .ok (.ireturn, 1) := by decide +kernel
theorem fW_told_0 : decode (m_cc M_W_told) 0 = .ok (.aload_n 3, 1) := by decide +kernel
theorem fW_told_1 : decode (m_cc M_W_told) 1 = .ok (.iconst 0, 1) := by decide +kernel
theorem fW_told_2 : decode (m_cc M_W_told) 2 = .ok (.aload_n 0, 1) := by decide +kernel
theorem fW_told_3 : decode (m_cc M_W_told) 3 = .ok (.iload_n 1, 1) := by decide +kernel
theorem fW_told_4 : decode (m_cc M_W_told) 4 = .ok (.iload_n 2, 1) := by decide +kernel
theorem fW_told_5 : decode (m_cc M_W_told) 5 = .ok (.invokevirtual 60, 3) := by decide +kernel
theorem fW_told_8 : decode (m_cc M_W_told) 8 = .ok (.i2l, 1) := by decide +kernel
theorem fW_told_9 : decode (m_cc M_W_told) 9 = .ok (.lastore, 1) := by decide +kernel
theorem fW_told_10 : decode (m_cc M_W_told) 10 = .ok (.goto 11, 3) := by decide +kernel
theorem fW_told_13 : decode (m_cc M_W_told) 13 = .ok (.astore 4, 2) := by decide +kernel
theorem fW_told_15 : decode (m_cc M_W_told) 15 = .ok (.iconst 1, 1) := by decide +kernel
theorem fW_told_16 : decode (m_cc M_W_told) 16 = .ok (.ireturn, 1) := by decide +kernel
theorem fW_told_17 : decode (m_cc M_W_told) 17 = .ok (.astore 4, 2) := by decide +kernel
theorem fW_told_19 : decode (m_cc M_W_told) 19 = .ok (.iconst 2, 1) := by decide +kernel
theorem fW_told_20 : decode (m_cc M_W_told) 20 = .ok (.ireturn, 1) := by decide +kernel
theorem fW_told_21 : decode (m_cc M_W_told) 21 = .ok (.iconst 0, 1) := by decide +kernel
theorem fW_told_22 : decode (m_cc M_W_told) 22 = .ok (.ireturn, 1) := by decide +kernel
theorem fW_lineOf_0 : decode (m_cc M_W_lineOf) 0 = .ok (.aload_n 3, 1) := by decide +kernel
theorem fW_lineOf_1 : decode (m_cc M_W_lineOf) 1 = .ok (.iconst 0, 1) := by decide +kernel
theorem fW_lineOf_2 : decode (m_cc M_W_lineOf) 2 = .ok (.aload_n 0, 1) := by decide +kernel
theorem fW_lineOf_3 : decode (m_cc M_W_lineOf) 3 = .ok (.iload_n 1, 1) := by decide +kernel
theorem fW_lineOf_4 : decode (m_cc M_W_lineOf) 4 = .ok (.iload_n 2, 1) := by decide +kernel
theorem fW_lineOf_5 : decode (m_cc M_W_lineOf) 5 = .ok (.invokevirtual 63, 3) := by decide +kernel
theorem fW_lineOf_8 : decode (m_cc M_W_lineOf) 8 = .ok (.i2l, 1) := by decide +kernel
theorem fW_lineOf_9 : decode (m_cc M_W_lineOf) 9 = .ok (.lastore, 1) := by decide +kernel
theorem fW_lineOf_10 : decode (m_cc M_W_lineOf) 10 = .ok (.goto 11, 3) := by decide +kernel
theorem fW_lineOf_13 : decode (m_cc M_W_lineOf) 13 = .ok (.astore 4, 2) := by decide +kernel
theorem fW_lineOf_15 : decode (m_cc M_W_lineOf) 15 = .ok (.iconst 1, 1) := by decide +kernel
theorem fW_lineOf_16 : decode (m_cc M_W_lineOf) 16 = .ok (.ireturn, 1) := by decide +kernel
theorem fW_lineOf_17 : decode (m_cc M_W_lineOf) 17 = .ok (.astore 4, 2) := by decide +kernel
theorem fW_lineOf_19 : decode (m_cc M_W_lineOf) 19 = .ok (.iconst 2, 1) := by decide +kernel
theorem fW_lineOf_20 : decode (m_cc M_W_lineOf) 20 = .ok (.ireturn, 1) := by decide +kernel
theorem fW_lineOf_21 : decode (m_cc M_W_lineOf) 21 = .ok (.iconst 0, 1) := by decide +kernel
theorem fW_lineOf_22 : decode (m_cc M_W_lineOf) 22 = .ok (.ireturn, 1) := by decide +kernel
theorem fW_packed_0 : decode (m_cc M_W_packed) 0 = .ok (.aload_n 2, 1) := by decide +kernel
theorem fW_packed_1 : decode (m_cc M_W_packed) 1 = .ok (.iconst 0, 1) := by decide +kernel
theorem fW_packed_2 : decode (m_cc M_W_packed) 2 = .ok (.aload_n 0, 1) := by decide +kernel
theorem fW_packed_3 : decode (m_cc M_W_packed) 3 = .ok (.iload_n 1, 1) := by decide +kernel
theorem fW_packed_4 : decode (m_cc M_W_packed) 4 = .ok (.invokevirtual 66, 3) := by decide +kernel
theorem fW_packed_7 : decode (m_cc M_W_packed) 7 = .ok (.lastore, 1) := by decide +kernel
theorem fW_packed_8 : decode (m_cc M_W_packed) 8 = .ok (.goto 6, 3) := by decide +kernel
theorem fW_packed_11 : decode (m_cc M_W_packed) 11 = .ok (.astore_n 3, 1) := by decide +kernel
theorem fW_packed_12 : decode (m_cc M_W_packed) 12 = .ok (.iconst 1, 1) := by decide +kernel
theorem fW_packed_13 : decode (m_cc M_W_packed) 13 = .ok (.ireturn, 1) := by decide +kernel
theorem fW_packed_14 : decode (m_cc M_W_packed) 14 = .ok (.iconst 0, 1) := by decide +kernel
theorem fW_packed_15 : decode (m_cc M_W_packed) 15 = .ok (.ireturn, 1) := by decide +kernel
