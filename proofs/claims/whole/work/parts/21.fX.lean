/-! DECODED: OrderRows3 -/
theorem fX_init_0 : decode (m_cc M_X_init) 0 = .ok (.aload_n 0, 1) := by decide +kernel
theorem fX_init_1 : decode (m_cc M_X_init) 1 = .ok (.invokespecial 1, 3) := by decide +kernel
theorem fX_init_4 : decode (m_cc M_X_init) 4 = .ok (.aload_n 0, 1) := by decide +kernel
theorem fX_init_5 : decode (m_cc M_X_init) 5 = .ok (.new 7, 3) := by decide +kernel
theorem fX_init_8 : decode (m_cc M_X_init) 8 = .ok (.dup, 1) := by decide +kernel
theorem fX_init_9 : decode (m_cc M_X_init) 9 = .ok (.invokespecial 9, 3) := by decide +kernel
theorem fX_init_12 : decode (m_cc M_X_init) 12 = .ok (.putfield 10, 3) := by decide +kernel
theorem fX_init_15 : decode (m_cc M_X_init) 15 = .ok (.aload_n 0, 1) := by decide +kernel
theorem fX_init_16 : decode (m_cc M_X_init) 16 = .ok (.new 7, 3) := by decide +kernel
theorem fX_init_19 : decode (m_cc M_X_init) 19 = .ok (.dup, 1) := by decide +kernel
theorem fX_init_20 : decode (m_cc M_X_init) 20 = .ok (.invokespecial 9, 3) := by decide +kernel
theorem fX_init_23 : decode (m_cc M_X_init) 23 = .ok (.putfield 16, 3) := by decide +kernel
theorem fX_init_26 : decode (m_cc M_X_init) 26 = .ok (.return_, 1) := by decide +kernel
theorem fX_order_0 : decode (m_cc M_X_order) 0 = .ok (.iload_n 1, 1) := by decide +kernel
theorem fX_order_1 : decode (m_cc M_X_order) 1 = .ok (.iconst 0, 1) := by decide +kernel
theorem fX_order_2 : decode (m_cc M_X_order) 2 = .ok (.bipush 7, 2) := by decide +kernel
theorem fX_order_4 : decode (m_cc M_X_order) 4 = .ok (.invokestatic 19, 3) := by decide +kernel
theorem fX_order_7 : decode (m_cc M_X_order) 7 = .ok (.iload_n 2, 1) := by decide +kernel
theorem fX_order_8 : decode (m_cc M_X_order) 8 = .ok (.iconst 1, 1) := by decide +kernel
theorem fX_order_9 : decode (m_cc M_X_order) 9 = .ok (.ldc 23, 2) := by decide +kernel
theorem fX_order_11 : decode (m_cc M_X_order) 11 = .ok (.invokestatic 19, 3) := by decide +kernel
theorem fX_order_14 : decode (m_cc M_X_order) 14 = .ok (.iload_n 3, 1) := by decide +kernel
theorem fX_order_15 : decode (m_cc M_X_order) 15 = .ok (.iconst 1, 1) := by decide +kernel
theorem fX_order_16 : decode (m_cc M_X_order) 16 = .ok (.bipush 9, 2) := by decide +kernel
theorem fX_order_18 : decode (m_cc M_X_order) 18 = .ok (.invokestatic 19, 3) := by decide +kernel
theorem fX_order_21 : decode (m_cc M_X_order) 21 = .ok (.iload 4, 2) := by decide +kernel
theorem fX_order_23 : decode (m_cc M_X_order) 23 = .ok (.iconst 0, 1) := by decide +kernel
theorem fX_order_24 : decode (m_cc M_X_order) 24 = .ok (.sipush 10000, 3) := by decide +kernel
theorem fX_order_27 : decode (m_cc M_X_order) 27 = .ok (.invokestatic 19, 3) := by decide +kernel
theorem fX_order_30 : decode (m_cc M_X_order) 30 = .ok (.aload_n 0, 1) := by decide +kernel
theorem fX_order_31 : decode (m_cc M_X_order) 31 = .ok (.iload_n 1, 1) := by decide +kernel
theorem fX_order_32 : decode (m_cc M_X_order) 32 = .ok (.iload_n 2, 1) := by decide +kernel
theorem fX_order_33 : decode (m_cc M_X_order) 33 = .ok (.invokevirtual 24, 3) := by decide +kernel
theorem fX_order_36 : decode (m_cc M_X_order) 36 = .ok (.istore 5, 2) := by decide +kernel
theorem fX_order_38 : decode (m_cc M_X_order) 38 = .ok (.iload 5, 2) := by decide +kernel
theorem fX_order_40 : decode (m_cc M_X_order) 40 = .ok (.iconst (-1), 1) := by decide +kernel
theorem fX_order_41 : decode (m_cc M_X_order) 41 = .ok (.if_icmp .eq 8, 3) := by decide +kernel
theorem fX_order_44 : decode (m_cc M_X_order) 44 = .ok (.iconst (-1), 1) := by decide +kernel
theorem fX_order_45 : decode (m_cc M_X_order) 45 = .ok (.iload 5, 2) := by decide +kernel
theorem fX_order_47 : decode (m_cc M_X_order) 47 = .ok (.isub, 1) := by decide +kernel
theorem fX_order_48 : decode (m_cc M_X_order) 48 = .ok (.ireturn, 1) := by decide +kernel
theorem fX_order_49 : decode (m_cc M_X_order) 49 = .ok (.aload_n 0, 1) := by decide +kernel
theorem fX_order_50 : decode (m_cc M_X_order) 50 = .ok (.invokevirtual 28, 3) := by decide +kernel
theorem fX_order_53 : decode (m_cc M_X_order) 53 = .ok (.aload_n 0, 1) := by decide +kernel
theorem fX_order_54 : decode (m_cc M_X_order) 54 = .ok (.iload_n 1, 1) := by decide +kernel
theorem fX_order_55 : decode (m_cc M_X_order) 55 = .ok (.iload_n 2, 1) := by decide +kernel
theorem fX_order_56 : decode (m_cc M_X_order) 56 = .ok (.iload_n 3, 1) := by decide +kernel
theorem fX_order_57 : decode (m_cc M_X_order) 57 = .ok (.iload 4, 2) := by decide +kernel
theorem fX_order_59 : decode (m_cc M_X_order) 59 = .ok (.invokevirtual 31, 3) := by decide +kernel
theorem fX_order_62 : decode (m_cc M_X_order) 62 = .ok (.getfield 35, 3) := by decide +kernel
theorem fX_order_65 : decode (m_cc M_X_order) 65 = .ok (.ireturn, 1) := by decide +kernel
theorem fX_line_0 : decode (m_cc M_X_line) 0 = .ok (.aload_n 0, 1) := by decide +kernel
theorem fX_line_1 : decode (m_cc M_X_line) 1 = .ok (.iload_n 1, 1) := by decide +kernel
theorem fX_line_2 : decode (m_cc M_X_line) 2 = .ok (.invokevirtual 41, 3) := by decide +kernel
theorem fX_line_5 : decode (m_cc M_X_line) 5 = .ok (.astore 5, 2) := by decide +kernel
theorem fX_line_7 : decode (m_cc M_X_line) 7 = .ok (.iload_n 2, 1) := by decide +kernel
theorem fX_line_8 : decode (m_cc M_X_line) 8 = .ok (.iconst 0, 1) := by decide +kernel
theorem fX_line_9 : decode (m_cc M_X_line) 9 = .ok (.bipush 15, 2) := by decide +kernel
theorem fX_line_11 : decode (m_cc M_X_line) 11 = .ok (.invokestatic 19, 3) := by decide +kernel
theorem fX_line_14 : decode (m_cc M_X_line) 14 = .ok (.iload_n 3, 1) := by decide +kernel
theorem fX_line_15 : decode (m_cc M_X_line) 15 = .ok (.iconst 1, 1) := by decide +kernel
theorem fX_line_16 : decode (m_cc M_X_line) 16 = .ok (.sipush 1000, 3) := by decide +kernel
theorem fX_line_19 : decode (m_cc M_X_line) 19 = .ok (.invokestatic 19, 3) := by decide +kernel
theorem fX_line_22 : decode (m_cc M_X_line) 22 = .ok (.iload 4, 2) := by decide +kernel
theorem fX_line_24 : decode (m_cc M_X_line) 24 = .ok (.iconst 0, 1) := by decide +kernel
theorem fX_line_25 : decode (m_cc M_X_line) 25 = .ok (.bipush 7, 2) := by decide +kernel
theorem fX_line_27 : decode (m_cc M_X_line) 27 = .ok (.invokestatic 19, 3) := by decide +kernel
theorem fX_line_30 : decode (m_cc M_X_line) 30 = .ok (.aload 5, 2) := by decide +kernel
theorem fX_line_32 : decode (m_cc M_X_line) 32 = .ok (.getfield 45, 3) := by decide +kernel
theorem fX_line_35 : decode (m_cc M_X_line) 35 = .ok (.ifCond .ne 7, 3) := by decide +kernel
theorem fX_line_38 : decode (m_cc M_X_line) 38 = .ok (.iconst 1, 1) := by decide +kernel
theorem fX_line_39 : decode (m_cc M_X_line) 39 = .ok (.goto 4, 3) := by decide +kernel
theorem fX_line_42 : decode (m_cc M_X_line) 42 = .ok (.iconst 0, 1) := by decide +kernel
theorem fX_line_43 : decode (m_cc M_X_line) 43 = .ok (.invokestatic 48, 3) := by decide +kernel
theorem fX_line_46 : decode (m_cc M_X_line) 46 = .ok (.aload 5, 2) := by decide +kernel
theorem fX_line_48 : decode (m_cc M_X_line) 48 = .ok (.getfield 52, 3) := by decide +kernel
theorem fX_line_51 : decode (m_cc M_X_line) 51 = .ok (.invokevirtual 53, 3) := by decide +kernel
theorem fX_line_54 : decode (m_cc M_X_line) 54 = .ok (.bipush 8, 2) := by decide +kernel
theorem fX_line_56 : decode (m_cc M_X_line) 56 = .ok (.if_icmp .ge 7, 3) := by decide +kernel
theorem fX_line_59 : decode (m_cc M_X_line) 59 = .ok (.iconst 1, 1) := by decide +kernel
theorem fX_line_60 : decode (m_cc M_X_line) 60 = .ok (.goto 4, 3) := by decide +kernel
theorem fX_line_63 : decode (m_cc M_X_line) 63 = .ok (.iconst 0, 1) := by decide +kernel
theorem fX_line_64 : decode (m_cc M_X_line) 64 = .ok (.invokestatic 57, 3) := by decide +kernel
theorem fX_line_67 : decode (m_cc M_X_line) 67 = .ok (.aload_n 0, 1) := by decide +kernel
theorem fX_line_68 : decode (m_cc M_X_line) 68 = .ok (.invokevirtual 60, 3) := by decide +kernel
theorem fX_line_71 : decode (m_cc M_X_line) 71 = .ok (.aload_n 0, 1) := by decide +kernel
theorem fX_line_72 : decode (m_cc M_X_line) 72 = .ok (.aload 5, 2) := by decide +kernel
theorem fX_line_74 : decode (m_cc M_X_line) 74 = .ok (.iload_n 2, 1) := by decide +kernel
theorem fX_line_75 : decode (m_cc M_X_line) 75 = .ok (.iload_n 3, 1) := by decide +kernel
theorem fX_line_76 : decode (m_cc M_X_line) 76 = .ok (.iload 4, 2) := by decide +kernel
theorem fX_line_78 : decode (m_cc M_X_line) 78 = .ok (.invokevirtual 63, 3) := by decide +kernel
theorem fX_line_81 : decode (m_cc M_X_line) 81 = .ok (.getfield 67, 3) := by decide +kernel
theorem fX_line_84 : decode (m_cc M_X_line) 84 = .ok (.ireturn, 1) := by decide +kernel
theorem fX_hold_0 : decode (m_cc M_X_hold) 0 = .ok (.aload_n 0, 1) := by decide +kernel
theorem fX_hold_1 : decode (m_cc M_X_hold) 1 = .ok (.iload_n 1, 1) := by decide +kernel
theorem fX_hold_2 : decode (m_cc M_X_hold) 2 = .ok (.invokevirtual 70, 3) := by decide +kernel
theorem fX_hold_5 : decode (m_cc M_X_hold) 5 = .ok (.astore_n 3, 1) := by decide +kernel
theorem fX_hold_6 : decode (m_cc M_X_hold) 6 = .ok (.iload_n 2, 1) := by decide +kernel
theorem fX_hold_7 : decode (m_cc M_X_hold) 7 = .ok (.iconst 1, 1) := by decide +kernel
theorem fX_hold_8 : decode (m_cc M_X_hold) 8 = .ok (.sipush 1000, 3) := by decide +kernel
theorem fX_hold_11 : decode (m_cc M_X_hold) 11 = .ok (.invokestatic 19, 3) := by decide +kernel
theorem fX_hold_14 : decode (m_cc M_X_hold) 14 = .ok (.aload_n 3, 1) := by decide +kernel
theorem fX_hold_15 : decode (m_cc M_X_hold) 15 = .ok (.getfield 74, 3) := by decide +kernel
theorem fX_hold_18 : decode (m_cc M_X_hold) 18 = .ok (.getfield 45, 3) := by decide +kernel
theorem fX_hold_21 : decode (m_cc M_X_hold) 21 = .ok (.ifCond .eq 14, 3) := by decide +kernel
theorem fX_hold_24 : decode (m_cc M_X_hold) 24 = .ok (.aload_n 3, 1) := by decide +kernel
theorem fX_hold_25 : decode (m_cc M_X_hold) 25 = .ok (.getfield 74, 3) := by decide +kernel
theorem fX_hold_28 : decode (m_cc M_X_hold) 28 = .ok (.getfield 45, 3) := by decide +kernel
theorem fX_hold_31 : decode (m_cc M_X_hold) 31 = .ok (.iconst 1, 1) := by decide +kernel
theorem fX_hold_32 : decode (m_cc M_X_hold) 32 = .ok (.if_icmp .ne 7, 3) := by decide +kernel
theorem fX_hold_35 : decode (m_cc M_X_hold) 35 = .ok (.iconst 1, 1) := by decide +kernel
theorem fX_hold_36 : decode (m_cc M_X_hold) 36 = .ok (.goto 4, 3) := by decide +kernel
theorem fX_hold_39 : decode (m_cc M_X_hold) 39 = .ok (.iconst 0, 1) := by decide +kernel
theorem fX_hold_40 : decode (m_cc M_X_hold) 40 = .ok (.invokestatic 48, 3) := by decide +kernel
theorem fX_hold_43 : decode (m_cc M_X_hold) 43 = .ok (.aload_n 3, 1) := by decide +kernel
theorem fX_hold_44 : decode (m_cc M_X_hold) 44 = .ok (.getfield 78, 3) := by decide +kernel
theorem fX_hold_47 : decode (m_cc M_X_hold) 47 = .ok (.invokestatic 48, 3) := by decide +kernel
theorem fX_hold_50 : decode (m_cc M_X_hold) 50 = .ok (.aload_n 3, 1) := by decide +kernel
theorem fX_hold_51 : decode (m_cc M_X_hold) 51 = .ok (.getfield 82, 3) := by decide +kernel
theorem fX_hold_54 : decode (m_cc M_X_hold) 54 = .ok (.iload_n 2, 1) := by decide +kernel
theorem fX_hold_55 : decode (m_cc M_X_hold) 55 = .ok (.iadd, 1) := by decide +kernel
theorem fX_hold_56 : decode (m_cc M_X_hold) 56 = .ok (.aload_n 3, 1) := by decide +kernel
theorem fX_hold_57 : decode (m_cc M_X_hold) 57 = .ok (.getfield 85, 3) := by decide +kernel
theorem fX_hold_60 : decode (m_cc M_X_hold) 60 = .ok (.if_icmp .gt 7, 3) := by decide +kernel
theorem fX_hold_63 : decode (m_cc M_X_hold) 63 = .ok (.iconst 1, 1) := by decide +kernel
theorem fX_hold_64 : decode (m_cc M_X_hold) 64 = .ok (.goto 4, 3) := by decide +kernel
theorem fX_hold_67 : decode (m_cc M_X_hold) 67 = .ok (.iconst 0, 1) := by decide +kernel
theorem fX_hold_68 : decode (m_cc M_X_hold) 68 = .ok (.invokestatic 48, 3) := by decide +kernel
theorem fX_hold_71 : decode (m_cc M_X_hold) 71 = .ok (.aload_n 3, 1) := by decide +kernel
theorem fX_hold_72 : decode (m_cc M_X_hold) 72 = .ok (.dup, 1) := by decide +kernel
theorem fX_hold_73 : decode (m_cc M_X_hold) 73 = .ok (.getfield 82, 3) := by decide +kernel
theorem fX_hold_76 : decode (m_cc M_X_hold) 76 = .ok (.iload_n 2, 1) := by decide +kernel
theorem fX_hold_77 : decode (m_cc M_X_hold) 77 = .ok (.iadd, 1) := by decide +kernel
theorem fX_hold_78 : decode (m_cc M_X_hold) 78 = .ok (.putfield 82, 3) := by decide +kernel
theorem fX_hold_81 : decode (m_cc M_X_hold) 81 = .ok (.aload_n 3, 1) := by decide +kernel
theorem fX_hold_82 : decode (m_cc M_X_hold) 82 = .ok (.getfield 74, 3) := by decide +kernel
theorem fX_hold_85 : decode (m_cc M_X_hold) 85 = .ok (.dup, 1) := by decide +kernel
theorem fX_hold_86 : decode (m_cc M_X_hold) 86 = .ok (.getfield 88, 3) := by decide +kernel
theorem fX_hold_89 : decode (m_cc M_X_hold) 89 = .ok (.iconst 1, 1) := by decide +kernel
theorem fX_hold_90 : decode (m_cc M_X_hold) 90 = .ok (.iadd, 1) := by decide +kernel
theorem fX_hold_91 : decode (m_cc M_X_hold) 91 = .ok (.putfield 88, 3) := by decide +kernel
theorem fX_hold_94 : decode (m_cc M_X_hold) 94 = .ok (.aload_n 3, 1) := by decide +kernel
theorem fX_hold_95 : decode (m_cc M_X_hold) 95 = .ok (.getfield 82, 3) := by decide +kernel
theorem fX_hold_98 : decode (m_cc M_X_hold) 98 = .ok (.ireturn, 1) := by decide +kernel
theorem fX_pick_0 : decode (m_cc M_X_pick) 0 = .ok (.aload_n 0, 1) := by decide +kernel
theorem fX_pick_1 : decode (m_cc M_X_pick) 1 = .ok (.iload_n 1, 1) := by decide +kernel
theorem fX_pick_2 : decode (m_cc M_X_pick) 2 = .ok (.invokevirtual 70, 3) := by decide +kernel
theorem fX_pick_5 : decode (m_cc M_X_pick) 5 = .ok (.astore_n 3, 1) := by decide +kernel
theorem fX_pick_6 : decode (m_cc M_X_pick) 6 = .ok (.iload_n 2, 1) := by decide +kernel
theorem fX_pick_7 : decode (m_cc M_X_pick) 7 = .ok (.iconst 1, 1) := by decide +kernel
theorem fX_pick_8 : decode (m_cc M_X_pick) 8 = .ok (.sipush 1000, 3) := by decide +kernel
theorem fX_pick_11 : decode (m_cc M_X_pick) 11 = .ok (.invokestatic 19, 3) := by decide +kernel
theorem fX_pick_14 : decode (m_cc M_X_pick) 14 = .ok (.aload_n 3, 1) := by decide +kernel
theorem fX_pick_15 : decode (m_cc M_X_pick) 15 = .ok (.getfield 74, 3) := by decide +kernel
theorem fX_pick_18 : decode (m_cc M_X_pick) 18 = .ok (.getfield 45, 3) := by decide +kernel
theorem fX_pick_21 : decode (m_cc M_X_pick) 21 = .ok (.iconst 2, 1) := by decide +kernel
theorem fX_pick_22 : decode (m_cc M_X_pick) 22 = .ok (.if_icmp .ne 7, 3) := by decide +kernel
theorem fX_pick_25 : decode (m_cc M_X_pick) 25 = .ok (.iconst 1, 1) := by decide +kernel
theorem fX_pick_26 : decode (m_cc M_X_pick) 26 = .ok (.goto 4, 3) := by decide +kernel
theorem fX_pick_29 : decode (m_cc M_X_pick) 29 = .ok (.iconst 0, 1) := by decide +kernel
theorem fX_pick_30 : decode (m_cc M_X_pick) 30 = .ok (.invokestatic 48, 3) := by decide +kernel
theorem fX_pick_33 : decode (m_cc M_X_pick) 33 = .ok (.aload_n 3, 1) := by decide +kernel
theorem fX_pick_34 : decode (m_cc M_X_pick) 34 = .ok (.getfield 74, 3) := by decide +kernel
theorem fX_pick_37 : decode (m_cc M_X_pick) 37 = .ok (.invokevirtual 91, 3) := by decide +kernel
theorem fX_pick_40 : decode (m_cc M_X_pick) 40 = .ok (.ifCond .ne 7, 3) := by decide +kernel
theorem fX_pick_43 : decode (m_cc M_X_pick) 43 = .ok (.iconst 1, 1) := by decide +kernel
theorem fX_pick_44 : decode (m_cc M_X_pick) 44 = .ok (.goto 4, 3) := by decide +kernel
theorem fX_pick_47 : decode (m_cc M_X_pick) 47 = .ok (.iconst 0, 1) := by decide +kernel
theorem fX_pick_48 : decode (m_cc M_X_pick) 48 = .ok (.invokestatic 48, 3) := by decide +kernel
theorem fX_pick_51 : decode (m_cc M_X_pick) 51 = .ok (.aload_n 3, 1) := by decide +kernel
theorem fX_pick_52 : decode (m_cc M_X_pick) 52 = .ok (.getfield 95, 3) := by decide +kernel
theorem fX_pick_55 : decode (m_cc M_X_pick) 55 = .ok (.iload_n 2, 1) := by decide +kernel
theorem fX_pick_56 : decode (m_cc M_X_pick) 56 = .ok (.iadd, 1) := by decide +kernel
theorem fX_pick_57 : decode (m_cc M_X_pick) 57 = .ok (.aload_n 3, 1) := by decide +kernel
theorem fX_pick_58 : decode (m_cc M_X_pick) 58 = .ok (.getfield 82, 3) := by decide +kernel
theorem fX_pick_61 : decode (m_cc M_X_pick) 61 = .ok (.if_icmp .gt 7, 3) := by decide +kernel
theorem fX_pick_64 : decode (m_cc M_X_pick) 64 = .ok (.iconst 1, 1) := by decide +kernel
theorem fX_pick_65 : decode (m_cc M_X_pick) 65 = .ok (.goto 4, 3) := by decide +kernel
theorem fX_pick_68 : decode (m_cc M_X_pick) 68 = .ok (.iconst 0, 1) := by decide +kernel
theorem fX_pick_69 : decode (m_cc M_X_pick) 69 = .ok (.invokestatic 48, 3) := by decide +kernel
theorem fX_pick_72 : decode (m_cc M_X_pick) 72 = .ok (.aload_n 3, 1) := by decide +kernel
theorem fX_pick_73 : decode (m_cc M_X_pick) 73 = .ok (.dup, 1) := by decide +kernel
theorem fX_pick_74 : decode (m_cc M_X_pick) 74 = .ok (.getfield 95, 3) := by decide +kernel
theorem fX_pick_77 : decode (m_cc M_X_pick) 77 = .ok (.iload_n 2, 1) := by decide +kernel
theorem fX_pick_78 : decode (m_cc M_X_pick) 78 = .ok (.iadd, 1) := by decide +kernel
theorem fX_pick_79 : decode (m_cc M_X_pick) 79 = .ok (.putfield 95, 3) := by decide +kernel
theorem fX_pick_82 : decode (m_cc M_X_pick) 82 = .ok (.aload_n 3, 1) := by decide +kernel
theorem fX_pick_83 : decode (m_cc M_X_pick) 83 = .ok (.getfield 74, 3) := by decide +kernel
theorem fX_pick_86 : decode (m_cc M_X_pick) 86 = .ok (.dup, 1) := by decide +kernel
theorem fX_pick_87 : decode (m_cc M_X_pick) 87 = .ok (.getfield 88, 3) := by decide +kernel
theorem fX_pick_90 : decode (m_cc M_X_pick) 90 = .ok (.iconst 1, 1) := by decide +kernel
theorem fX_pick_91 : decode (m_cc M_X_pick) 91 = .ok (.iadd, 1) := by decide +kernel
theorem fX_pick_92 : decode (m_cc M_X_pick) 92 = .ok (.putfield 88, 3) := by decide +kernel
theorem fX_pick_95 : decode (m_cc M_X_pick) 95 = .ok (.aload_n 3, 1) := by decide +kernel
theorem fX_pick_96 : decode (m_cc M_X_pick) 96 = .ok (.getfield 95, 3) := by decide +kernel
theorem fX_pick_99 : decode (m_cc M_X_pick) 99 = .ok (.ireturn, 1) := by decide +kernel
theorem fX_goOn_0 : decode (m_cc M_X_goOn) 0 = .ok (.aload_n 0, 1) := by decide +kernel
theorem fX_goOn_1 : decode (m_cc M_X_goOn) 1 = .ok (.iload_n 1, 1) := by decide +kernel
theorem fX_goOn_2 : decode (m_cc M_X_goOn) 2 = .ok (.invokevirtual 41, 3) := by decide +kernel
theorem fX_goOn_5 : decode (m_cc M_X_goOn) 5 = .ok (.astore_n 2, 1) := by decide +kernel
theorem fX_goOn_6 : decode (m_cc M_X_goOn) 6 = .ok (.aload_n 2, 1) := by decide +kernel
theorem fX_goOn_7 : decode (m_cc M_X_goOn) 7 = .ok (.getfield 45, 3) := by decide +kernel
theorem fX_goOn_10 : decode (m_cc M_X_goOn) 10 = .ok (.iconst 5, 1) := by decide +kernel
theorem fX_goOn_11 : decode (m_cc M_X_goOn) 11 = .ok (.if_icmp .ge 7, 3) := by decide +kernel
theorem fX_goOn_14 : decode (m_cc M_X_goOn) 14 = .ok (.iconst 1, 1) := by decide +kernel
theorem fX_goOn_15 : decode (m_cc M_X_goOn) 15 = .ok (.goto 4, 3) := by decide +kernel
theorem fX_goOn_18 : decode (m_cc M_X_goOn) 18 = .ok (.iconst 0, 1) := by decide +kernel
theorem fX_goOn_19 : decode (m_cc M_X_goOn) 19 = .ok (.invokestatic 48, 3) := by decide +kernel
theorem fX_goOn_22 : decode (m_cc M_X_goOn) 22 = .ok (.aload_n 2, 1) := by decide +kernel
theorem fX_goOn_23 : decode (m_cc M_X_goOn) 23 = .ok (.invokevirtual 91, 3) := by decide +kernel
theorem fX_goOn_26 : decode (m_cc M_X_goOn) 26 = .ok (.ifCond .ne 10, 3) := by decide +kernel
theorem fX_goOn_29 : decode (m_cc M_X_goOn) 29 = .ok (.aload_n 2, 1) := by decide +kernel
theorem fX_goOn_30 : decode (m_cc M_X_goOn) 30 = .ok (.invokevirtual 98, 3) := by decide +kernel
theorem fX_goOn_33 : decode (m_cc M_X_goOn) 33 = .ok (.ifCond .ne 5, 3) := by decide +kernel
theorem fX_goOn_36 : decode (m_cc M_X_goOn) 36 = .ok (.iconst (-1), 1) := by decide +kernel
theorem fX_goOn_37 : decode (m_cc M_X_goOn) 37 = .ok (.ireturn, 1) := by decide +kernel
theorem fX_goOn_38 : decode (m_cc M_X_goOn) 38 = .ok (.aload_n 2, 1) := by decide +kernel
theorem fX_goOn_39 : decode (m_cc M_X_goOn) 39 = .ok (.getfield 45, 3) := by decide +kernel
theorem fX_goOn_42 : decode (m_cc M_X_goOn) 42 = .ok (.iconst 3, 1) := by decide +kernel
theorem fX_goOn_43 : decode (m_cc M_X_goOn) 43 = .ok (.if_icmp .ne 7, 3) := by decide +kernel
theorem fX_goOn_46 : decode (m_cc M_X_goOn) 46 = .ok (.aload_n 2, 1) := by decide +kernel
theorem fX_goOn_47 : decode (m_cc M_X_goOn) 47 = .ok (.invokevirtual 101, 3) := by decide +kernel
theorem fX_goOn_50 : decode (m_cc M_X_goOn) 50 = .ok (.aload_n 2, 1) := by decide +kernel
theorem fX_goOn_51 : decode (m_cc M_X_goOn) 51 = .ok (.dup, 1) := by decide +kernel
theorem fX_goOn_52 : decode (m_cc M_X_goOn) 52 = .ok (.getfield 45, 3) := by decide +kernel
theorem fX_goOn_55 : decode (m_cc M_X_goOn) 55 = .ok (.iconst 1, 1) := by decide +kernel
theorem fX_goOn_56 : decode (m_cc M_X_goOn) 56 = .ok (.iadd, 1) := by decide +kernel
theorem fX_goOn_57 : decode (m_cc M_X_goOn) 57 = .ok (.putfield 45, 3) := by decide +kernel
theorem fX_goOn_60 : decode (m_cc M_X_goOn) 60 = .ok (.aload_n 2, 1) := by decide +kernel
theorem fX_goOn_61 : decode (m_cc M_X_goOn) 61 = .ok (.dup, 1) := by decide +kernel
theorem fX_goOn_62 : decode (m_cc M_X_goOn) 62 = .ok (.getfield 88, 3) := by decide +kernel
theorem fX_goOn_65 : decode (m_cc M_X_goOn) 65 = .ok (.iconst 1, 1) := by decide +kernel
theorem fX_goOn_66 : decode (m_cc M_X_goOn) 66 = .ok (.iadd, 1) := by decide +kernel
theorem fX_goOn_67 : decode (m_cc M_X_goOn) 67 = .ok (.putfield 88, 3) := by decide +kernel
theorem fX_goOn_70 : decode (m_cc M_X_goOn) 70 = .ok (.aload_n 2, 1) := by decide +kernel
theorem fX_goOn_71 : decode (m_cc M_X_goOn) 71 = .ok (.getfield 45, 3) := by decide +kernel
theorem fX_goOn_74 : decode (m_cc M_X_goOn) 74 = .ok (.ireturn, 1) := by decide +kernel
theorem fX_change_0 : decode (m_cc M_X_change) 0 = .ok (.aload_n 0, 1) := by decide +kernel
theorem fX_change_1 : decode (m_cc M_X_change) 1 = .ok (.iload_n 1, 1) := by decide +kernel
theorem fX_change_2 : decode (m_cc M_X_change) 2 = .ok (.invokevirtual 70, 3) := by decide +kernel
theorem fX_change_5 : decode (m_cc M_X_change) 5 = .ok (.astore 4, 2) := by decide +kernel
theorem fX_change_7 : decode (m_cc M_X_change) 7 = .ok (.iload_n 2, 1) := by decide +kernel
theorem fX_change_8 : decode (m_cc M_X_change) 8 = .ok (.iconst 0, 1) := by decide +kernel
theorem fX_change_9 : decode (m_cc M_X_change) 9 = .ok (.iconst 2, 1) := by decide +kernel
theorem fX_change_10 : decode (m_cc M_X_change) 10 = .ok (.invokestatic 19, 3) := by decide +kernel
theorem fX_change_13 : decode (m_cc M_X_change) 13 = .ok (.iload_n 2, 1) := by decide +kernel
theorem fX_change_14 : decode (m_cc M_X_change) 14 = .ok (.iload_n 3, 1) := by decide +kernel
theorem fX_change_15 : decode (m_cc M_X_change) 15 = .ok (.invokestatic 104, 3) := by decide +kernel
theorem fX_change_18 : decode (m_cc M_X_change) 18 = .ok (.aload 4, 2) := by decide +kernel
theorem fX_change_20 : decode (m_cc M_X_change) 20 = .ok (.getfield 78, 3) := by decide +kernel
theorem fX_change_23 : decode (m_cc M_X_change) 23 = .ok (.invokestatic 48, 3) := by decide +kernel
theorem fX_change_26 : decode (m_cc M_X_change) 26 = .ok (.aload 4, 2) := by decide +kernel
theorem fX_change_28 : decode (m_cc M_X_change) 28 = .ok (.getfield 74, 3) := by decide +kernel
theorem fX_change_31 : decode (m_cc M_X_change) 31 = .ok (.getfield 45, 3) := by decide +kernel
theorem fX_change_34 : decode (m_cc M_X_change) 34 = .ok (.iload_n 2, 1) := by decide +kernel
theorem fX_change_35 : decode (m_cc M_X_change) 35 = .ok (.invokestatic 108, 3) := by decide +kernel
theorem fX_change_38 : decode (m_cc M_X_change) 38 = .ok (.ifCond .ne 5, 3) := by decide +kernel
theorem fX_change_41 : decode (m_cc M_X_change) 41 = .ok (.iconst 0, 1) := by decide +kernel
theorem fX_change_42 : decode (m_cc M_X_change) 42 = .ok (.ireturn, 1) := by decide +kernel
theorem fX_change_43 : decode (m_cc M_X_change) 43 = .ok (.iload_n 2, 1) := by decide +kernel
theorem fX_change_44 : decode (m_cc M_X_change) 44 = .ok (.iconst 1, 1) := by decide +kernel
theorem fX_change_45 : decode (m_cc M_X_change) 45 = .ok (.if_icmp .ne 29, 3) := by decide +kernel
theorem fX_change_48 : decode (m_cc M_X_change) 48 = .ok (.aload 4, 2) := by decide +kernel
theorem fX_change_50 : decode (m_cc M_X_change) 50 = .ok (.iconst 2, 1) := by decide +kernel
theorem fX_change_51 : decode (m_cc M_X_change) 51 = .ok (.invokevirtual 112, 3) := by decide +kernel
theorem fX_change_54 : decode (m_cc M_X_change) 54 = .ok (.invokestatic 48, 3) := by decide +kernel
theorem fX_change_57 : decode (m_cc M_X_change) 57 = .ok (.iload_n 3, 1) := by decide +kernel
theorem fX_change_58 : decode (m_cc M_X_change) 58 = .ok (.aload 4, 2) := by decide +kernel
theorem fX_change_60 : decode (m_cc M_X_change) 60 = .ok (.getfield 116, 3) := by decide +kernel
theorem fX_change_63 : decode (m_cc M_X_change) 63 = .ok (.if_icmp .eq 7, 3) := by decide +kernel
theorem fX_change_66 : decode (m_cc M_X_change) 66 = .ok (.iconst 1, 1) := by decide +kernel
theorem fX_change_67 : decode (m_cc M_X_change) 67 = .ok (.goto 4, 3) := by decide +kernel
theorem fX_change_70 : decode (m_cc M_X_change) 70 = .ok (.iconst 0, 1) := by decide +kernel
theorem fX_change_71 : decode (m_cc M_X_change) 71 = .ok (.invokestatic 48, 3) := by decide +kernel
theorem fX_change_74 : decode (m_cc M_X_change) 74 = .ok (.aload 4, 2) := by decide +kernel
theorem fX_change_76 : decode (m_cc M_X_change) 76 = .ok (.iload_n 2, 1) := by decide +kernel
theorem fX_change_77 : decode (m_cc M_X_change) 77 = .ok (.iload_n 3, 1) := by decide +kernel
theorem fX_change_78 : decode (m_cc M_X_change) 78 = .ok (.invokestatic 119, 3) := by decide +kernel
theorem fX_change_81 : decode (m_cc M_X_change) 81 = .ok (.aload 4, 2) := by decide +kernel
theorem fX_change_83 : decode (m_cc M_X_change) 83 = .ok (.getfield 74, 3) := by decide +kernel
theorem fX_change_86 : decode (m_cc M_X_change) 86 = .ok (.dup, 1) := by decide +kernel
theorem fX_change_87 : decode (m_cc M_X_change) 87 = .ok (.getfield 88, 3) := by decide +kernel
theorem fX_change_90 : decode (m_cc M_X_change) 90 = .ok (.iconst 1, 1) := by decide +kernel
theorem fX_change_91 : decode (m_cc M_X_change) 91 = .ok (.iadd, 1) := by decide +kernel
theorem fX_change_92 : decode (m_cc M_X_change) 92 = .ok (.putfield 88, 3) := by decide +kernel
theorem fX_change_95 : decode (m_cc M_X_change) 95 = .ok (.iconst 1, 1) := by decide +kernel
theorem fX_change_96 : decode (m_cc M_X_change) 96 = .ok (.ireturn, 1) := by decide +kernel
theorem fX_move_0 : decode (m_cc M_X_move) 0 = .ok (.aload_n 0, 1) := by decide +kernel
theorem fX_move_1 : decode (m_cc M_X_move) 1 = .ok (.iload_n 1, 1) := by decide +kernel
theorem fX_move_2 : decode (m_cc M_X_move) 2 = .ok (.invokevirtual 41, 3) := by decide +kernel
theorem fX_move_5 : decode (m_cc M_X_move) 5 = .ok (.astore_n 3, 1) := by decide +kernel
theorem fX_move_6 : decode (m_cc M_X_move) 6 = .ok (.iload_n 2, 1) := by decide +kernel
theorem fX_move_7 : decode (m_cc M_X_move) 7 = .ok (.iconst 0, 1) := by decide +kernel
theorem fX_move_8 : decode (m_cc M_X_move) 8 = .ok (.sipush 10000, 3) := by decide +kernel
theorem fX_move_11 : decode (m_cc M_X_move) 11 = .ok (.invokestatic 19, 3) := by decide +kernel
theorem fX_move_14 : decode (m_cc M_X_move) 14 = .ok (.aload_n 3, 1) := by decide +kernel
theorem fX_move_15 : decode (m_cc M_X_move) 15 = .ok (.getfield 45, 3) := by decide +kernel
theorem fX_move_18 : decode (m_cc M_X_move) 18 = .ok (.iconst 4, 1) := by decide +kernel
theorem fX_move_19 : decode (m_cc M_X_move) 19 = .ok (.if_icmp .lt 5, 3) := by decide +kernel
theorem fX_move_22 : decode (m_cc M_X_move) 22 = .ok (.iconst 0, 1) := by decide +kernel
theorem fX_move_23 : decode (m_cc M_X_move) 23 = .ok (.ireturn, 1) := by decide +kernel
theorem fX_move_24 : decode (m_cc M_X_move) 24 = .ok (.aload_n 3, 1) := by decide +kernel
theorem fX_move_25 : decode (m_cc M_X_move) 25 = .ok (.iload_n 2, 1) := by decide +kernel
theorem fX_move_26 : decode (m_cc M_X_move) 26 = .ok (.putfield 123, 3) := by decide +kernel
theorem fX_move_29 : decode (m_cc M_X_move) 29 = .ok (.aload_n 3, 1) := by decide +kernel
theorem fX_move_30 : decode (m_cc M_X_move) 30 = .ok (.dup, 1) := by decide +kernel
theorem fX_move_31 : decode (m_cc M_X_move) 31 = .ok (.getfield 88, 3) := by decide +kernel
theorem fX_move_34 : decode (m_cc M_X_move) 34 = .ok (.iconst 1, 1) := by decide +kernel
theorem fX_move_35 : decode (m_cc M_X_move) 35 = .ok (.iadd, 1) := by decide +kernel
theorem fX_move_36 : decode (m_cc M_X_move) 36 = .ok (.putfield 88, 3) := by decide +kernel
theorem fX_move_39 : decode (m_cc M_X_move) 39 = .ok (.iconst 1, 1) := by decide +kernel
theorem fX_move_40 : decode (m_cc M_X_move) 40 = .ok (.ireturn, 1) := by decide +kernel
theorem fX_cancel_0 : decode (m_cc M_X_cancel) 0 = .ok (.aload_n 0, 1) := by decide +kernel
theorem fX_cancel_1 : decode (m_cc M_X_cancel) 1 = .ok (.iload_n 1, 1) := by decide +kernel
theorem fX_cancel_2 : decode (m_cc M_X_cancel) 2 = .ok (.invokevirtual 70, 3) := by decide +kernel
theorem fX_cancel_5 : decode (m_cc M_X_cancel) 5 = .ok (.astore_n 2, 1) := by decide +kernel
theorem fX_cancel_6 : decode (m_cc M_X_cancel) 6 = .ok (.aload_n 2, 1) := by decide +kernel
theorem fX_cancel_7 : decode (m_cc M_X_cancel) 7 = .ok (.getfield 74, 3) := by decide +kernel
theorem fX_cancel_10 : decode (m_cc M_X_cancel) 10 = .ok (.astore_n 3, 1) := by decide +kernel
theorem fX_cancel_11 : decode (m_cc M_X_cancel) 11 = .ok (.aload_n 2, 1) := by decide +kernel
theorem fX_cancel_12 : decode (m_cc M_X_cancel) 12 = .ok (.getfield 78, 3) := by decide +kernel
theorem fX_cancel_15 : decode (m_cc M_X_cancel) 15 = .ok (.invokestatic 48, 3) := by decide +kernel
theorem fX_cancel_18 : decode (m_cc M_X_cancel) 18 = .ok (.aload_n 3, 1) := by decide +kernel
theorem fX_cancel_19 : decode (m_cc M_X_cancel) 19 = .ok (.getfield 45, 3) := by decide +kernel
theorem fX_cancel_22 : decode (m_cc M_X_cancel) 22 = .ok (.iconst 2, 1) := by decide +kernel
theorem fX_cancel_23 : decode (m_cc M_X_cancel) 23 = .ok (.if_icmp .gt 7, 3) := by decide +kernel
theorem fX_cancel_26 : decode (m_cc M_X_cancel) 26 = .ok (.iconst 1, 1) := by decide +kernel
theorem fX_cancel_27 : decode (m_cc M_X_cancel) 27 = .ok (.goto 4, 3) := by decide +kernel
theorem fX_cancel_30 : decode (m_cc M_X_cancel) 30 = .ok (.iconst 0, 1) := by decide +kernel
theorem fX_cancel_31 : decode (m_cc M_X_cancel) 31 = .ok (.invokestatic 48, 3) := by decide +kernel
theorem fX_cancel_34 : decode (m_cc M_X_cancel) 34 = .ok (.aload_n 2, 1) := by decide +kernel
theorem fX_cancel_35 : decode (m_cc M_X_cancel) 35 = .ok (.getfield 82, 3) := by decide +kernel
theorem fX_cancel_38 : decode (m_cc M_X_cancel) 38 = .ok (.istore 4, 2) := by decide +kernel
theorem fX_cancel_40 : decode (m_cc M_X_cancel) 40 = .ok (.aload_n 2, 1) := by decide +kernel
theorem fX_cancel_41 : decode (m_cc M_X_cancel) 41 = .ok (.iconst 0, 1) := by decide +kernel
theorem fX_cancel_42 : decode (m_cc M_X_cancel) 42 = .ok (.putfield 78, 3) := by decide +kernel
theorem fX_cancel_45 : decode (m_cc M_X_cancel) 45 = .ok (.aload_n 2, 1) := by decide +kernel
theorem fX_cancel_46 : decode (m_cc M_X_cancel) 46 = .ok (.iconst 0, 1) := by decide +kernel
theorem fX_cancel_47 : decode (m_cc M_X_cancel) 47 = .ok (.putfield 85, 3) := by decide +kernel
theorem fX_cancel_50 : decode (m_cc M_X_cancel) 50 = .ok (.aload_n 2, 1) := by decide +kernel
theorem fX_cancel_51 : decode (m_cc M_X_cancel) 51 = .ok (.iconst 0, 1) := by decide +kernel
theorem fX_cancel_52 : decode (m_cc M_X_cancel) 52 = .ok (.putfield 82, 3) := by decide +kernel
theorem fX_cancel_55 : decode (m_cc M_X_cancel) 55 = .ok (.aload_n 2, 1) := by decide +kernel
theorem fX_cancel_56 : decode (m_cc M_X_cancel) 56 = .ok (.iconst 0, 1) := by decide +kernel
theorem fX_cancel_57 : decode (m_cc M_X_cancel) 57 = .ok (.putfield 95, 3) := by decide +kernel
theorem fX_cancel_60 : decode (m_cc M_X_cancel) 60 = .ok (.aload_n 3, 1) := by decide +kernel
theorem fX_cancel_61 : decode (m_cc M_X_cancel) 61 = .ok (.dup, 1) := by decide +kernel
theorem fX_cancel_62 : decode (m_cc M_X_cancel) 62 = .ok (.getfield 88, 3) := by decide +kernel
theorem fX_cancel_65 : decode (m_cc M_X_cancel) 65 = .ok (.iconst 1, 1) := by decide +kernel
theorem fX_cancel_66 : decode (m_cc M_X_cancel) 66 = .ok (.iadd, 1) := by decide +kernel
theorem fX_cancel_67 : decode (m_cc M_X_cancel) 67 = .ok (.putfield 88, 3) := by decide +kernel
theorem fX_cancel_70 : decode (m_cc M_X_cancel) 70 = .ok (.aload_n 3, 1) := by decide +kernel
theorem fX_cancel_71 : decode (m_cc M_X_cancel) 71 = .ok (.invokevirtual 126, 3) := by decide +kernel
theorem fX_cancel_74 : decode (m_cc M_X_cancel) 74 = .ok (.ifCond .ne 9, 3) := by decide +kernel
theorem fX_cancel_77 : decode (m_cc M_X_cancel) 77 = .ok (.aload_n 3, 1) := by decide +kernel
theorem fX_cancel_78 : decode (m_cc M_X_cancel) 78 = .ok (.bipush 6, 2) := by decide +kernel
theorem fX_cancel_80 : decode (m_cc M_X_cancel) 80 = .ok (.putfield 45, 3) := by decide +kernel
theorem fX_cancel_83 : decode (m_cc M_X_cancel) 83 = .ok (.iload 4, 2) := by decide +kernel
theorem fX_cancel_85 : decode (m_cc M_X_cancel) 85 = .ok (.ireturn, 1) := by decide +kernel
theorem fX_join_0 : decode (m_cc M_X_join) 0 = .ok (.aload_n 0, 1) := by decide +kernel
theorem fX_join_1 : decode (m_cc M_X_join) 1 = .ok (.iload_n 1, 1) := by decide +kernel
theorem fX_join_2 : decode (m_cc M_X_join) 2 = .ok (.invokevirtual 41, 3) := by decide +kernel
theorem fX_join_5 : decode (m_cc M_X_join) 5 = .ok (.astore_n 3, 1) := by decide +kernel
theorem fX_join_6 : decode (m_cc M_X_join) 6 = .ok (.aload_n 0, 1) := by decide +kernel
theorem fX_join_7 : decode (m_cc M_X_join) 7 = .ok (.iload_n 2, 1) := by decide +kernel
theorem fX_join_8 : decode (m_cc M_X_join) 8 = .ok (.invokevirtual 41, 3) := by decide +kernel
theorem fX_join_11 : decode (m_cc M_X_join) 11 = .ok (.astore 4, 2) := by decide +kernel
theorem fX_join_13 : decode (m_cc M_X_join) 13 = .ok (.aload_n 3, 1) := by decide +kernel
theorem fX_join_14 : decode (m_cc M_X_join) 14 = .ok (.aload 4, 2) := by decide +kernel
theorem fX_join_16 : decode (m_cc M_X_join) 16 = .ok (.if_acmp .eq 7, 3) := by decide +kernel
theorem fX_join_19 : decode (m_cc M_X_join) 19 = .ok (.iconst 1, 1) := by decide +kernel
theorem fX_join_20 : decode (m_cc M_X_join) 20 = .ok (.goto 4, 3) := by decide +kernel
theorem fX_join_23 : decode (m_cc M_X_join) 23 = .ok (.iconst 0, 1) := by decide +kernel
theorem fX_join_24 : decode (m_cc M_X_join) 24 = .ok (.invokestatic 48, 3) := by decide +kernel
theorem fX_join_27 : decode (m_cc M_X_join) 27 = .ok (.aload_n 3, 1) := by decide +kernel
theorem fX_join_28 : decode (m_cc M_X_join) 28 = .ok (.getfield 45, 3) := by decide +kernel
theorem fX_join_31 : decode (m_cc M_X_join) 31 = .ok (.ifCond .ne 15, 3) := by decide +kernel
theorem fX_join_34 : decode (m_cc M_X_join) 34 = .ok (.aload 4, 2) := by decide +kernel
theorem fX_join_36 : decode (m_cc M_X_join) 36 = .ok (.getfield 45, 3) := by decide +kernel
theorem fX_join_39 : decode (m_cc M_X_join) 39 = .ok (.ifCond .ne 7, 3) := by decide +kernel
theorem fX_join_42 : decode (m_cc M_X_join) 42 = .ok (.iconst 1, 1) := by decide +kernel
theorem fX_join_43 : decode (m_cc M_X_join) 43 = .ok (.goto 4, 3) := by decide +kernel
theorem fX_join_46 : decode (m_cc M_X_join) 46 = .ok (.iconst 0, 1) := by decide +kernel
theorem fX_join_47 : decode (m_cc M_X_join) 47 = .ok (.invokestatic 48, 3) := by decide +kernel
theorem fX_join_50 : decode (m_cc M_X_join) 50 = .ok (.aload_n 3, 1) := by decide +kernel
theorem fX_join_51 : decode (m_cc M_X_join) 51 = .ok (.getfield 129, 3) := by decide +kernel
theorem fX_join_54 : decode (m_cc M_X_join) 54 = .ok (.aload 4, 2) := by decide +kernel
theorem fX_join_56 : decode (m_cc M_X_join) 56 = .ok (.getfield 129, 3) := by decide +kernel
theorem fX_join_59 : decode (m_cc M_X_join) 59 = .ok (.if_icmp .ne 7, 3) := by decide +kernel
theorem fX_join_62 : decode (m_cc M_X_join) 62 = .ok (.iconst 1, 1) := by decide +kernel
theorem fX_join_63 : decode (m_cc M_X_join) 63 = .ok (.goto 4, 3) := by decide +kernel
theorem fX_join_66 : decode (m_cc M_X_join) 66 = .ok (.iconst 0, 1) := by decide +kernel
theorem fX_join_67 : decode (m_cc M_X_join) 67 = .ok (.invokestatic 48, 3) := by decide +kernel
theorem fX_join_70 : decode (m_cc M_X_join) 70 = .ok (.aload_n 3, 1) := by decide +kernel
theorem fX_join_71 : decode (m_cc M_X_join) 71 = .ok (.invokevirtual 91, 3) := by decide +kernel
theorem fX_join_74 : decode (m_cc M_X_join) 74 = .ok (.ifCond .ne 15, 3) := by decide +kernel
theorem fX_join_77 : decode (m_cc M_X_join) 77 = .ok (.aload 4, 2) := by decide +kernel
theorem fX_join_79 : decode (m_cc M_X_join) 79 = .ok (.invokevirtual 91, 3) := by decide +kernel
theorem fX_join_82 : decode (m_cc M_X_join) 82 = .ok (.ifCond .ne 7, 3) := by decide +kernel
theorem fX_join_85 : decode (m_cc M_X_join) 85 = .ok (.iconst 1, 1) := by decide +kernel
theorem fX_join_86 : decode (m_cc M_X_join) 86 = .ok (.goto 4, 3) := by decide +kernel
theorem fX_join_89 : decode (m_cc M_X_join) 89 = .ok (.iconst 0, 1) := by decide +kernel
theorem fX_join_90 : decode (m_cc M_X_join) 90 = .ok (.invokestatic 48, 3) := by decide +kernel
theorem fX_join_93 : decode (m_cc M_X_join) 93 = .ok (.aload_n 3, 1) := by decide +kernel
theorem fX_join_94 : decode (m_cc M_X_join) 94 = .ok (.getfield 52, 3) := by decide +kernel
theorem fX_join_97 : decode (m_cc M_X_join) 97 = .ok (.invokevirtual 53, 3) := by decide +kernel
theorem fX_join_100 : decode (m_cc M_X_join) 100 = .ok (.aload 4, 2) := by decide +kernel
theorem fX_join_102 : decode (m_cc M_X_join) 102 = .ok (.getfield 52, 3) := by decide +kernel
theorem fX_join_105 : decode (m_cc M_X_join) 105 = .ok (.invokevirtual 53, 3) := by decide +kernel
theorem fX_join_108 : decode (m_cc M_X_join) 108 = .ok (.iadd, 1) := by decide +kernel
theorem fX_join_109 : decode (m_cc M_X_join) 109 = .ok (.bipush 8, 2) := by decide +kernel
theorem fX_join_111 : decode (m_cc M_X_join) 111 = .ok (.if_icmp .gt 7, 3) := by decide +kernel
theorem fX_join_114 : decode (m_cc M_X_join) 114 = .ok (.iconst 1, 1) := by decide +kernel
theorem fX_join_115 : decode (m_cc M_X_join) 115 = .ok (.goto 4, 3) := by decide +kernel
theorem fX_join_118 : decode (m_cc M_X_join) 118 = .ok (.iconst 0, 1) := by decide +kernel
theorem fX_join_119 : decode (m_cc M_X_join) 119 = .ok (.invokestatic 57, 3) := by decide +kernel
theorem fX_join_122 : decode (m_cc M_X_join) 122 = .ok (.aload_n 3, 1) := by decide +kernel
theorem fX_join_123 : decode (m_cc M_X_join) 123 = .ok (.aload 4, 2) := by decide +kernel
theorem fX_join_125 : decode (m_cc M_X_join) 125 = .ok (.invokevirtual 132, 3) := by decide +kernel
theorem fX_join_128 : decode (m_cc M_X_join) 128 = .ok (.aload 4, 2) := by decide +kernel
theorem fX_join_130 : decode (m_cc M_X_join) 130 = .ok (.bipush 7, 2) := by decide +kernel
theorem fX_join_132 : decode (m_cc M_X_join) 132 = .ok (.putfield 45, 3) := by decide +kernel
theorem fX_join_135 : decode (m_cc M_X_join) 135 = .ok (.aload 4, 2) := by decide +kernel
theorem fX_join_137 : decode (m_cc M_X_join) 137 = .ok (.aload_n 3, 1) := by decide +kernel
theorem fX_join_138 : decode (m_cc M_X_join) 138 = .ok (.getfield 35, 3) := by decide +kernel
theorem fX_join_141 : decode (m_cc M_X_join) 141 = .ok (.putfield 136, 3) := by decide +kernel
theorem fX_join_144 : decode (m_cc M_X_join) 144 = .ok (.aload_n 3, 1) := by decide +kernel
theorem fX_join_145 : decode (m_cc M_X_join) 145 = .ok (.dup, 1) := by decide +kernel
theorem fX_join_146 : decode (m_cc M_X_join) 146 = .ok (.getfield 88, 3) := by decide +kernel
theorem fX_join_149 : decode (m_cc M_X_join) 149 = .ok (.iconst 1, 1) := by decide +kernel
theorem fX_join_150 : decode (m_cc M_X_join) 150 = .ok (.iadd, 1) := by decide +kernel
theorem fX_join_151 : decode (m_cc M_X_join) 151 = .ok (.putfield 88, 3) := by decide +kernel
theorem fX_join_154 : decode (m_cc M_X_join) 154 = .ok (.aload 4, 2) := by decide +kernel
theorem fX_join_156 : decode (m_cc M_X_join) 156 = .ok (.dup, 1) := by decide +kernel
theorem fX_join_157 : decode (m_cc M_X_join) 157 = .ok (.getfield 88, 3) := by decide +kernel
theorem fX_join_160 : decode (m_cc M_X_join) 160 = .ok (.iconst 1, 1) := by decide +kernel
theorem fX_join_161 : decode (m_cc M_X_join) 161 = .ok (.iadd, 1) := by decide +kernel
theorem fX_join_162 : decode (m_cc M_X_join) 162 = .ok (.putfield 88, 3) := by decide +kernel
theorem fX_join_165 : decode (m_cc M_X_join) 165 = .ok (.return_, 1) := by decide +kernel
theorem fX_block_0 : decode (m_cc M_X_block) 0 = .ok (.aload_n 0, 1) := by decide +kernel
theorem fX_block_1 : decode (m_cc M_X_block) 1 = .ok (.iload_n 1, 1) := by decide +kernel
theorem fX_block_2 : decode (m_cc M_X_block) 2 = .ok (.invokevirtual 41, 3) := by decide +kernel
theorem fX_block_5 : decode (m_cc M_X_block) 5 = .ok (.astore 4, 2) := by decide +kernel
theorem fX_block_7 : decode (m_cc M_X_block) 7 = .ok (.iload_n 2, 1) := by decide +kernel
theorem fX_block_8 : decode (m_cc M_X_block) 8 = .ok (.iconst 0, 1) := by decide +kernel
theorem fX_block_9 : decode (m_cc M_X_block) 9 = .ok (.bipush 7, 2) := by decide +kernel
theorem fX_block_11 : decode (m_cc M_X_block) 11 = .ok (.invokestatic 19, 3) := by decide +kernel
theorem fX_block_14 : decode (m_cc M_X_block) 14 = .ok (.aload 4, 2) := by decide +kernel
theorem fX_block_16 : decode (m_cc M_X_block) 16 = .ok (.getfield 45, 3) := by decide +kernel
theorem fX_block_19 : decode (m_cc M_X_block) 19 = .ok (.iconst 4, 1) := by decide +kernel
theorem fX_block_20 : decode (m_cc M_X_block) 20 = .ok (.if_icmp .ge 7, 3) := by decide +kernel
theorem fX_block_23 : decode (m_cc M_X_block) 23 = .ok (.iconst 1, 1) := by decide +kernel
theorem fX_block_24 : decode (m_cc M_X_block) 24 = .ok (.goto 4, 3) := by decide +kernel
theorem fX_block_27 : decode (m_cc M_X_block) 27 = .ok (.iconst 0, 1) := by decide +kernel
theorem fX_block_28 : decode (m_cc M_X_block) 28 = .ok (.invokestatic 48, 3) := by decide +kernel
theorem fX_block_31 : decode (m_cc M_X_block) 31 = .ok (.iconst 1, 1) := by decide +kernel
theorem fX_block_32 : decode (m_cc M_X_block) 32 = .ok (.iload_n 2, 1) := by decide +kernel
theorem fX_block_33 : decode (m_cc M_X_block) 33 = .ok (.ishl, 1) := by decide +kernel
theorem fX_block_34 : decode (m_cc M_X_block) 34 = .ok (.istore 5, 2) := by decide +kernel
theorem fX_block_36 : decode (m_cc M_X_block) 36 = .ok (.aload 4, 2) := by decide +kernel
theorem fX_block_38 : decode (m_cc M_X_block) 38 = .ok (.getfield 139, 3) := by decide +kernel
theorem fX_block_41 : decode (m_cc M_X_block) 41 = .ok (.iload 5, 2) := by decide +kernel
theorem fX_block_43 : decode (m_cc M_X_block) 43 = .ok (.iand, 1) := by decide +kernel
theorem fX_block_44 : decode (m_cc M_X_block) 44 = .ok (.ifCond .eq 7, 3) := by decide +kernel
theorem fX_block_47 : decode (m_cc M_X_block) 47 = .ok (.iconst 1, 1) := by decide +kernel
theorem fX_block_48 : decode (m_cc M_X_block) 48 = .ok (.goto 4, 3) := by decide +kernel
theorem fX_block_51 : decode (m_cc M_X_block) 51 = .ok (.iconst 0, 1) := by decide +kernel
theorem fX_block_52 : decode (m_cc M_X_block) 52 = .ok (.istore 6, 2) := by decide +kernel
theorem fX_block_54 : decode (m_cc M_X_block) 54 = .ok (.iload 6, 2) := by decide +kernel
theorem fX_block_56 : decode (m_cc M_X_block) 56 = .ok (.iload_n 3, 1) := by decide +kernel
theorem fX_block_57 : decode (m_cc M_X_block) 57 = .ok (.if_icmp .eq 7, 3) := by decide +kernel
theorem fX_block_60 : decode (m_cc M_X_block) 60 = .ok (.iconst 1, 1) := by decide +kernel
theorem fX_block_61 : decode (m_cc M_X_block) 61 = .ok (.goto 4, 3) := by decide +kernel
theorem fX_block_64 : decode (m_cc M_X_block) 64 = .ok (.iconst 0, 1) := by decide +kernel
theorem fX_block_65 : decode (m_cc M_X_block) 65 = .ok (.invokestatic 48, 3) := by decide +kernel
theorem fX_block_68 : decode (m_cc M_X_block) 68 = .ok (.aload 4, 2) := by decide +kernel
theorem fX_block_70 : decode (m_cc M_X_block) 70 = .ok (.dup, 1) := by decide +kernel
theorem fX_block_71 : decode (m_cc M_X_block) 71 = .ok (.getfield 139, 3) := by decide +kernel
theorem fX_block_74 : decode (m_cc M_X_block) 74 = .ok (.iload 5, 2) := by decide +kernel
theorem fX_block_76 : decode (m_cc M_X_block) 76 = .ok (.ixor, 1) := by decide +kernel
theorem fX_block_77 : decode (m_cc M_X_block) 77 = .ok (.putfield 139, 3) := by decide +kernel
theorem fX_block_80 : decode (m_cc M_X_block) 80 = .ok (.aload 4, 2) := by decide +kernel
theorem fX_block_82 : decode (m_cc M_X_block) 82 = .ok (.dup, 1) := by decide +kernel
theorem fX_block_83 : decode (m_cc M_X_block) 83 = .ok (.getfield 88, 3) := by decide +kernel
theorem fX_block_86 : decode (m_cc M_X_block) 86 = .ok (.iconst 1, 1) := by decide +kernel
theorem fX_block_87 : decode (m_cc M_X_block) 87 = .ok (.iadd, 1) := by decide +kernel
theorem fX_block_88 : decode (m_cc M_X_block) 88 = .ok (.putfield 88, 3) := by decide +kernel
theorem fX_block_91 : decode (m_cc M_X_block) 91 = .ok (.aload 4, 2) := by decide +kernel
theorem fX_block_93 : decode (m_cc M_X_block) 93 = .ok (.getfield 139, 3) := by decide +kernel
theorem fX_block_96 : decode (m_cc M_X_block) 96 = .ok (.invokestatic 142, 3) := by decide +kernel
theorem fX_block_99 : decode (m_cc M_X_block) 99 = .ok (.ireturn, 1) := by decide +kernel
theorem fX_backorder_0 : decode (m_cc M_X_backorder) 0 = .ok (.aload_n 0, 1) := by decide +kernel
theorem fX_backorder_1 : decode (m_cc M_X_backorder) 1 = .ok (.iload_n 1, 1) := by decide +kernel
theorem fX_backorder_2 : decode (m_cc M_X_backorder) 2 = .ok (.invokevirtual 70, 3) := by decide +kernel
theorem fX_backorder_5 : decode (m_cc M_X_backorder) 5 = .ok (.astore_n 2, 1) := by decide +kernel
theorem fX_backorder_6 : decode (m_cc M_X_backorder) 6 = .ok (.aload_n 2, 1) := by decide +kernel
theorem fX_backorder_7 : decode (m_cc M_X_backorder) 7 = .ok (.getfield 74, 3) := by decide +kernel
theorem fX_backorder_10 : decode (m_cc M_X_backorder) 10 = .ok (.astore_n 3, 1) := by decide +kernel
theorem fX_backorder_11 : decode (m_cc M_X_backorder) 11 = .ok (.aload_n 3, 1) := by decide +kernel
theorem fX_backorder_12 : decode (m_cc M_X_backorder) 12 = .ok (.getfield 45, 3) := by decide +kernel
theorem fX_backorder_15 : decode (m_cc M_X_backorder) 15 = .ok (.iconst 4, 1) := by decide +kernel
theorem fX_backorder_16 : decode (m_cc M_X_backorder) 16 = .ok (.if_icmp .ne 7, 3) := by decide +kernel
theorem fX_backorder_19 : decode (m_cc M_X_backorder) 19 = .ok (.iconst 1, 1) := by decide +kernel
theorem fX_backorder_20 : decode (m_cc M_X_backorder) 20 = .ok (.goto 4, 3) := by decide +kernel
theorem fX_backorder_23 : decode (m_cc M_X_backorder) 23 = .ok (.iconst 0, 1) := by decide +kernel
theorem fX_backorder_24 : decode (m_cc M_X_backorder) 24 = .ok (.invokestatic 48, 3) := by decide +kernel
theorem fX_backorder_27 : decode (m_cc M_X_backorder) 27 = .ok (.aload_n 2, 1) := by decide +kernel
theorem fX_backorder_28 : decode (m_cc M_X_backorder) 28 = .ok (.invokevirtual 148, 3) := by decide +kernel
theorem fX_backorder_31 : decode (m_cc M_X_backorder) 31 = .ok (.invokestatic 48, 3) := by decide +kernel
theorem fX_backorder_34 : decode (m_cc M_X_backorder) 34 = .ok (.aload_n 0, 1) := by decide +kernel
theorem fX_backorder_35 : decode (m_cc M_X_backorder) 35 = .ok (.invokevirtual 28, 3) := by decide +kernel
theorem fX_backorder_38 : decode (m_cc M_X_backorder) 38 = .ok (.aload_n 0, 1) := by decide +kernel
theorem fX_backorder_39 : decode (m_cc M_X_backorder) 39 = .ok (.invokevirtual 60, 3) := by decide +kernel
theorem fX_backorder_42 : decode (m_cc M_X_backorder) 42 = .ok (.aload_n 0, 1) := by decide +kernel
theorem fX_backorder_43 : decode (m_cc M_X_backorder) 43 = .ok (.aload_n 3, 1) := by decide +kernel
theorem fX_backorder_44 : decode (m_cc M_X_backorder) 44 = .ok (.getfield 129, 3) := by decide +kernel
theorem fX_backorder_47 : decode (m_cc M_X_backorder) 47 = .ok (.iconst 0, 1) := by decide +kernel
theorem fX_backorder_48 : decode (m_cc M_X_backorder) 48 = .ok (.aload_n 3, 1) := by decide +kernel
theorem fX_backorder_49 : decode (m_cc M_X_backorder) 49 = .ok (.getfield 151, 3) := by decide +kernel
theorem fX_backorder_52 : decode (m_cc M_X_backorder) 52 = .ok (.aload_n 3, 1) := by decide +kernel
theorem fX_backorder_53 : decode (m_cc M_X_backorder) 53 = .ok (.getfield 123, 3) := by decide +kernel
theorem fX_backorder_56 : decode (m_cc M_X_backorder) 56 = .ok (.invokevirtual 31, 3) := by decide +kernel
theorem fX_backorder_59 : decode (m_cc M_X_backorder) 59 = .ok (.astore 4, 2) := by decide +kernel
theorem fX_backorder_61 : decode (m_cc M_X_backorder) 61 = .ok (.aload_n 0, 1) := by decide +kernel
theorem fX_backorder_62 : decode (m_cc M_X_backorder) 62 = .ok (.aload 4, 2) := by decide +kernel
theorem fX_backorder_64 : decode (m_cc M_X_backorder) 64 = .ok (.aload_n 2, 1) := by decide +kernel
theorem fX_backorder_65 : decode (m_cc M_X_backorder) 65 = .ok (.getfield 116, 3) := by decide +kernel
theorem fX_backorder_68 : decode (m_cc M_X_backorder) 68 = .ok (.aload_n 2, 1) := by decide +kernel
theorem fX_backorder_69 : decode (m_cc M_X_backorder) 69 = .ok (.invokevirtual 154, 3) := by decide +kernel
theorem fX_backorder_72 : decode (m_cc M_X_backorder) 72 = .ok (.aload_n 2, 1) := by decide +kernel
theorem fX_backorder_73 : decode (m_cc M_X_backorder) 73 = .ok (.getfield 157, 3) := by decide +kernel
theorem fX_backorder_76 : decode (m_cc M_X_backorder) 76 = .ok (.invokevirtual 63, 3) := by decide +kernel
theorem fX_backorder_79 : decode (m_cc M_X_backorder) 79 = .ok (.astore 5, 2) := by decide +kernel
theorem fX_backorder_81 : decode (m_cc M_X_backorder) 81 = .ok (.aload_n 2, 1) := by decide +kernel
theorem fX_backorder_82 : decode (m_cc M_X_backorder) 82 = .ok (.iconst 1, 1) := by decide +kernel
theorem fX_backorder_83 : decode (m_cc M_X_backorder) 83 = .ok (.putfield 160, 3) := by decide +kernel
theorem fX_backorder_86 : decode (m_cc M_X_backorder) 86 = .ok (.aload 5, 2) := by decide +kernel
theorem fX_backorder_88 : decode (m_cc M_X_backorder) 88 = .ok (.getfield 67, 3) := by decide +kernel
theorem fX_backorder_91 : decode (m_cc M_X_backorder) 91 = .ok (.ireturn, 1) := by decide +kernel
theorem fX_ready_0 : decode (m_cc M_X_ready) 0 = .ok (.iload_n 1, 1) := by decide +kernel
theorem fX_ready_1 : decode (m_cc M_X_ready) 1 = .ok (.invokestatic 163, 3) := by decide +kernel
theorem fX_ready_4 : decode (m_cc M_X_ready) 4 = .ok (.iconst 0, 1) := by decide +kernel
theorem fX_ready_5 : decode (m_cc M_X_ready) 5 = .ok (.istore_n 2, 1) := by decide +kernel
theorem fX_ready_6 : decode (m_cc M_X_ready) 6 = .ok (.iload_n 2, 1) := by decide +kernel
theorem fX_ready_7 : decode (m_cc M_X_ready) 7 = .ok (.aload_n 0, 1) := by decide +kernel
theorem fX_ready_8 : decode (m_cc M_X_ready) 8 = .ok (.getfield 10, 3) := by decide +kernel
theorem fX_ready_11 : decode (m_cc M_X_ready) 11 = .ok (.invokevirtual 53, 3) := by decide +kernel
theorem fX_ready_14 : decode (m_cc M_X_ready) 14 = .ok (.if_icmp .ge 42, 3) := by decide +kernel
theorem fX_ready_17 : decode (m_cc M_X_ready) 17 = .ok (.aload_n 0, 1) := by decide +kernel
theorem fX_ready_18 : decode (m_cc M_X_ready) 18 = .ok (.getfield 10, 3) := by decide +kernel
theorem fX_ready_21 : decode (m_cc M_X_ready) 21 = .ok (.iload_n 2, 1) := by decide +kernel
theorem fX_ready_22 : decode (m_cc M_X_ready) 22 = .ok (.invokevirtual 167, 3) := by decide +kernel
theorem fX_ready_25 : decode (m_cc M_X_ready) 25 = .ok (.checkcast 36, 3) := by decide +kernel
theorem fX_ready_28 : decode (m_cc M_X_ready) 28 = .ok (.astore_n 3, 1) := by decide +kernel
theorem fX_ready_29 : decode (m_cc M_X_ready) 29 = .ok (.aload_n 3, 1) := by decide +kernel
theorem fX_ready_30 : decode (m_cc M_X_ready) 30 = .ok (.invokevirtual 171, 3) := by decide +kernel
theorem fX_ready_33 : decode (m_cc M_X_ready) 33 = .ok (.ifCond .eq 17, 3) := by decide +kernel
theorem fX_ready_36 : decode (m_cc M_X_ready) 36 = .ok (.aload_n 0, 1) := by decide +kernel
theorem fX_ready_37 : decode (m_cc M_X_ready) 37 = .ok (.aload_n 3, 1) := by decide +kernel
theorem fX_ready_38 : decode (m_cc M_X_ready) 38 = .ok (.invokevirtual 174, 3) := by decide +kernel
theorem fX_ready_41 : decode (m_cc M_X_ready) 41 = .ok (.iload_n 1, 1) := by decide +kernel
theorem fX_ready_42 : decode (m_cc M_X_ready) 42 = .ok (.if_icmp .ne 8, 3) := by decide +kernel
theorem fX_ready_45 : decode (m_cc M_X_ready) 45 = .ok (.aload_n 3, 1) := by decide +kernel
theorem fX_ready_46 : decode (m_cc M_X_ready) 46 = .ok (.getfield 35, 3) := by decide +kernel
theorem fX_ready_49 : decode (m_cc M_X_ready) 49 = .ok (.ireturn, 1) := by decide +kernel
theorem fX_ready_50 : decode (m_cc M_X_ready) 50 = .ok (.iinc 2 1, 3) := by decide +kernel
theorem fX_ready_53 : decode (m_cc M_X_ready) 53 = .ok (.goto (-47), 3) := by decide +kernel
theorem fX_ready_56 : decode (m_cc M_X_ready) 56 = .ok (.iconst (-1), 1) := by decide +kernel
theorem fX_ready_57 : decode (m_cc M_X_ready) 57 = .ok (.ireturn, 1) := by decide +kernel
theorem fX_told_0 : decode (m_cc M_X_told) 0 = .ok (.aload_n 0, 1) := by decide +kernel
theorem fX_told_1 : decode (m_cc M_X_told) 1 = .ok (.iload_n 1, 1) := by decide +kernel
theorem fX_told_2 : decode (m_cc M_X_told) 2 = .ok (.invokevirtual 41, 3) := by decide +kernel
theorem fX_told_5 : decode (m_cc M_X_told) 5 = .ok (.astore_n 3, 1) := by decide +kernel
theorem fX_told_6 : decode (m_cc M_X_told) 6 = .ok (.iload_n 2, 1) := by decide +kernel
theorem fX_told_7 : decode (m_cc M_X_told) 7 = .ok (.tableswitch 106 0 9 #[53, 58, 63, 68, 73, 78, 83, 91, 96, 101], 53) := by decide +kernel
theorem fX_told_60 : decode (m_cc M_X_told) 60 = .ok (.aload_n 3, 1) := by decide +kernel
theorem fX_told_61 : decode (m_cc M_X_told) 61 = .ok (.getfield 45, 3) := by decide +kernel
theorem fX_told_64 : decode (m_cc M_X_told) 64 = .ok (.ireturn, 1) := by decide +kernel
theorem fX_told_65 : decode (m_cc M_X_told) 65 = .ok (.aload_n 3, 1) := by decide +kernel
theorem fX_told_66 : decode (m_cc M_X_told) 66 = .ok (.getfield 129, 3) := by decide +kernel
theorem fX_told_69 : decode (m_cc M_X_told) 69 = .ok (.ireturn, 1) := by decide +kernel
theorem fX_told_70 : decode (m_cc M_X_told) 70 = .ok (.aload_n 3, 1) := by decide +kernel
theorem fX_told_71 : decode (m_cc M_X_told) 71 = .ok (.getfield 178, 3) := by decide +kernel
theorem fX_told_74 : decode (m_cc M_X_told) 74 = .ok (.ireturn, 1) := by decide +kernel
theorem fX_told_75 : decode (m_cc M_X_told) 75 = .ok (.aload_n 3, 1) := by decide +kernel
theorem fX_told_76 : decode (m_cc M_X_told) 76 = .ok (.getfield 151, 3) := by decide +kernel
theorem fX_told_79 : decode (m_cc M_X_told) 79 = .ok (.ireturn, 1) := by decide +kernel
theorem fX_told_80 : decode (m_cc M_X_told) 80 = .ok (.aload_n 3, 1) := by decide +kernel
theorem fX_told_81 : decode (m_cc M_X_told) 81 = .ok (.getfield 123, 3) := by decide +kernel
theorem fX_told_84 : decode (m_cc M_X_told) 84 = .ok (.ireturn, 1) := by decide +kernel
theorem fX_told_85 : decode (m_cc M_X_told) 85 = .ok (.aload_n 3, 1) := by decide +kernel
theorem fX_told_86 : decode (m_cc M_X_told) 86 = .ok (.getfield 139, 3) := by decide +kernel
theorem fX_told_89 : decode (m_cc M_X_told) 89 = .ok (.ireturn, 1) := by decide +kernel
theorem fX_told_90 : decode (m_cc M_X_told) 90 = .ok (.aload_n 3, 1) := by decide +kernel
theorem fX_told_91 : decode (m_cc M_X_told) 91 = .ok (.getfield 52, 3) := by decide +kernel
theorem fX_told_94 : decode (m_cc M_X_told) 94 = .ok (.invokevirtual 53, 3) := by decide +kernel
theorem fX_told_97 : decode (m_cc M_X_told) 97 = .ok (.ireturn, 1) := by decide +kernel
theorem fX_told_98 : decode (m_cc M_X_told) 98 = .ok (.aload_n 3, 1) := by decide +kernel
theorem fX_told_99 : decode (m_cc M_X_told) 99 = .ok (.getfield 88, 3) := by decide +kernel
theorem fX_told_102 : decode (m_cc M_X_told) 102 = .ok (.ireturn, 1) := by decide +kernel
theorem fX_told_103 : decode (m_cc M_X_told) 103 = .ok (.aload_n 3, 1) := by decide +kernel
theorem fX_told_104 : decode (m_cc M_X_told) 104 = .ok (.getfield 136, 3) := by decide +kernel
theorem fX_told_107 : decode (m_cc M_X_told) 107 = .ok (.ireturn, 1) := by decide +kernel
theorem fX_told_108 : decode (m_cc M_X_told) 108 = .ok (.aload_n 3, 1) := by decide +kernel
theorem fX_told_109 : decode (m_cc M_X_told) 109 = .ok (.invokevirtual 181, 3) := by decide +kernel
theorem fX_told_112 : decode (m_cc M_X_told) 112 = .ok (.ireturn, 1) := by decide +kernel
theorem fX_told_113 : decode (m_cc M_X_told) 113 = .ok (.new 182, 3) := by decide +kernel
theorem fX_told_116 : decode (m_cc M_X_told) 116 = .ok (.dup, 1) := by decide +kernel
theorem fX_told_117 : decode (m_cc M_X_told) 117 = .ok (.ldc 184, 2) := by decide +kernel
theorem fX_told_119 : decode (m_cc M_X_told) 119 = .ok (.invokespecial 186, 3) := by decide +kernel
theorem fX_told_122 : decode (m_cc M_X_told) 122 = .ok (.athrow, 1) := by decide +kernel
theorem fX_lineOf_0 : decode (m_cc M_X_lineOf) 0 = .ok (.aload_n 0, 1) := by decide +kernel
theorem fX_lineOf_1 : decode (m_cc M_X_lineOf) 1 = .ok (.iload_n 1, 1) := by decide +kernel
theorem fX_lineOf_2 : decode (m_cc M_X_lineOf) 2 = .ok (.invokevirtual 41, 3) := by decide +kernel
theorem fX_lineOf_5 : decode (m_cc M_X_lineOf) 5 = .ok (.astore_n 3, 1) := by decide +kernel
theorem fX_lineOf_6 : decode (m_cc M_X_lineOf) 6 = .ok (.iload_n 2, 1) := by decide +kernel
theorem fX_lineOf_7 : decode (m_cc M_X_lineOf) 7 = .ok (.invokestatic 163, 3) := by decide +kernel
theorem fX_lineOf_10 : decode (m_cc M_X_lineOf) 10 = .ok (.iload_n 2, 1) := by decide +kernel
theorem fX_lineOf_11 : decode (m_cc M_X_lineOf) 11 = .ok (.aload_n 3, 1) := by decide +kernel
theorem fX_lineOf_12 : decode (m_cc M_X_lineOf) 12 = .ok (.getfield 52, 3) := by decide +kernel
theorem fX_lineOf_15 : decode (m_cc M_X_lineOf) 15 = .ok (.invokevirtual 53, 3) := by decide +kernel
theorem fX_lineOf_18 : decode (m_cc M_X_lineOf) 18 = .ok (.if_icmp .ge 20, 3) := by decide +kernel
theorem fX_lineOf_21 : decode (m_cc M_X_lineOf) 21 = .ok (.aload_n 3, 1) := by decide +kernel
theorem fX_lineOf_22 : decode (m_cc M_X_lineOf) 22 = .ok (.getfield 52, 3) := by decide +kernel
theorem fX_lineOf_25 : decode (m_cc M_X_lineOf) 25 = .ok (.iload_n 2, 1) := by decide +kernel
theorem fX_lineOf_26 : decode (m_cc M_X_lineOf) 26 = .ok (.invokevirtual 167, 3) := by decide +kernel
theorem fX_lineOf_29 : decode (m_cc M_X_lineOf) 29 = .ok (.checkcast 68, 3) := by decide +kernel
theorem fX_lineOf_32 : decode (m_cc M_X_lineOf) 32 = .ok (.getfield 67, 3) := by decide +kernel
theorem fX_lineOf_35 : decode (m_cc M_X_lineOf) 35 = .ok (.goto 4, 3) := by decide +kernel
theorem fX_lineOf_38 : decode (m_cc M_X_lineOf) 38 = .ok (.iconst (-1), 1) := by decide +kernel
theorem fX_lineOf_39 : decode (m_cc M_X_lineOf) 39 = .ok (.ireturn, 1) := by decide +kernel
theorem fX_packed_0 : decode (m_cc M_X_packed) 0 = .ok (.aload_n 0, 1) := by decide +kernel
theorem fX_packed_1 : decode (m_cc M_X_packed) 1 = .ok (.iload_n 1, 1) := by decide +kernel
theorem fX_packed_2 : decode (m_cc M_X_packed) 2 = .ok (.invokevirtual 70, 3) := by decide +kernel
theorem fX_packed_5 : decode (m_cc M_X_packed) 5 = .ok (.astore_n 2, 1) := by decide +kernel
theorem fX_packed_6 : decode (m_cc M_X_packed) 6 = .ok (.aload_n 2, 1) := by decide +kernel
theorem fX_packed_7 : decode (m_cc M_X_packed) 7 = .ok (.getfield 74, 3) := by decide +kernel
theorem fX_packed_10 : decode (m_cc M_X_packed) 10 = .ok (.getfield 35, 3) := by decide +kernel
theorem fX_packed_13 : decode (m_cc M_X_packed) 13 = .ok (.i2l, 1) := by decide +kernel
theorem fX_packed_14 : decode (m_cc M_X_packed) 14 = .ok (.lstore_n 3, 1) := by decide +kernel
theorem fX_packed_15 : decode (m_cc M_X_packed) 15 = .ok (.lload_n 3, 1) := by decide +kernel
theorem fX_packed_16 : decode (m_cc M_X_packed) 16 = .ok (.iconst 1, 1) := by decide +kernel
theorem fX_packed_17 : decode (m_cc M_X_packed) 17 = .ok (.lshl, 1) := by decide +kernel
theorem fX_packed_18 : decode (m_cc M_X_packed) 18 = .ok (.aload_n 2, 1) := by decide +kernel
theorem fX_packed_19 : decode (m_cc M_X_packed) 19 = .ok (.getfield 160, 3) := by decide +kernel
theorem fX_packed_22 : decode (m_cc M_X_packed) 22 = .ok (.ifCond .eq 7, 3) := by decide +kernel
theorem fX_packed_25 : decode (m_cc M_X_packed) 25 = .ok (.iconst 1, 1) := by decide +kernel
theorem fX_packed_26 : decode (m_cc M_X_packed) 26 = .ok (.goto 4, 3) := by decide +kernel
theorem fX_packed_29 : decode (m_cc M_X_packed) 29 = .ok (.iconst 0, 1) := by decide +kernel
theorem fX_packed_30 : decode (m_cc M_X_packed) 30 = .ok (.i2l, 1) := by decide +kernel
theorem fX_packed_31 : decode (m_cc M_X_packed) 31 = .ok (.lor, 1) := by decide +kernel
theorem fX_packed_32 : decode (m_cc M_X_packed) 32 = .ok (.lstore_n 3, 1) := by decide +kernel
theorem fX_packed_33 : decode (m_cc M_X_packed) 33 = .ok (.lload_n 3, 1) := by decide +kernel
theorem fX_packed_34 : decode (m_cc M_X_packed) 34 = .ok (.iconst 1, 1) := by decide +kernel
theorem fX_packed_35 : decode (m_cc M_X_packed) 35 = .ok (.lshl, 1) := by decide +kernel
theorem fX_packed_36 : decode (m_cc M_X_packed) 36 = .ok (.aload_n 2, 1) := by decide +kernel
theorem fX_packed_37 : decode (m_cc M_X_packed) 37 = .ok (.getfield 78, 3) := by decide +kernel
theorem fX_packed_40 : decode (m_cc M_X_packed) 40 = .ok (.ifCond .eq 7, 3) := by decide +kernel
theorem fX_packed_43 : decode (m_cc M_X_packed) 43 = .ok (.iconst 1, 1) := by decide +kernel
theorem fX_packed_44 : decode (m_cc M_X_packed) 44 = .ok (.goto 4, 3) := by decide +kernel
theorem fX_packed_47 : decode (m_cc M_X_packed) 47 = .ok (.iconst 0, 1) := by decide +kernel
theorem fX_packed_48 : decode (m_cc M_X_packed) 48 = .ok (.i2l, 1) := by decide +kernel
theorem fX_packed_49 : decode (m_cc M_X_packed) 49 = .ok (.lor, 1) := by decide +kernel
theorem fX_packed_50 : decode (m_cc M_X_packed) 50 = .ok (.lstore_n 3, 1) := by decide +kernel
theorem fX_packed_51 : decode (m_cc M_X_packed) 51 = .ok (.lload_n 3, 1) := by decide +kernel
theorem fX_packed_52 : decode (m_cc M_X_packed) 52 = .ok (.bipush 10, 2) := by decide +kernel
theorem fX_packed_54 : decode (m_cc M_X_packed) 54 = .ok (.lshl, 1) := by decide +kernel
theorem fX_packed_55 : decode (m_cc M_X_packed) 55 = .ok (.aload_n 2, 1) := by decide +kernel
theorem fX_packed_56 : decode (m_cc M_X_packed) 56 = .ok (.getfield 189, 3) := by decide +kernel
theorem fX_packed_59 : decode (m_cc M_X_packed) 59 = .ok (.i2l, 1) := by decide +kernel
theorem fX_packed_60 : decode (m_cc M_X_packed) 60 = .ok (.lor, 1) := by decide +kernel
theorem fX_packed_61 : decode (m_cc M_X_packed) 61 = .ok (.lstore_n 3, 1) := by decide +kernel
theorem fX_packed_62 : decode (m_cc M_X_packed) 62 = .ok (.lload_n 3, 1) := by decide +kernel
theorem fX_packed_63 : decode (m_cc M_X_packed) 63 = .ok (.bipush 10, 2) := by decide +kernel
theorem fX_packed_65 : decode (m_cc M_X_packed) 65 = .ok (.lshl, 1) := by decide +kernel
theorem fX_packed_66 : decode (m_cc M_X_packed) 66 = .ok (.aload_n 2, 1) := by decide +kernel
theorem fX_packed_67 : decode (m_cc M_X_packed) 67 = .ok (.getfield 95, 3) := by decide +kernel
theorem fX_packed_70 : decode (m_cc M_X_packed) 70 = .ok (.i2l, 1) := by decide +kernel
theorem fX_packed_71 : decode (m_cc M_X_packed) 71 = .ok (.lor, 1) := by decide +kernel
theorem fX_packed_72 : decode (m_cc M_X_packed) 72 = .ok (.lstore_n 3, 1) := by decide +kernel
theorem fX_packed_73 : decode (m_cc M_X_packed) 73 = .ok (.lload_n 3, 1) := by decide +kernel
theorem fX_packed_74 : decode (m_cc M_X_packed) 74 = .ok (.bipush 10, 2) := by decide +kernel
theorem fX_packed_76 : decode (m_cc M_X_packed) 76 = .ok (.lshl, 1) := by decide +kernel
theorem fX_packed_77 : decode (m_cc M_X_packed) 77 = .ok (.aload_n 2, 1) := by decide +kernel
theorem fX_packed_78 : decode (m_cc M_X_packed) 78 = .ok (.getfield 82, 3) := by decide +kernel
theorem fX_packed_81 : decode (m_cc M_X_packed) 81 = .ok (.i2l, 1) := by decide +kernel
theorem fX_packed_82 : decode (m_cc M_X_packed) 82 = .ok (.lor, 1) := by decide +kernel
theorem fX_packed_83 : decode (m_cc M_X_packed) 83 = .ok (.lstore_n 3, 1) := by decide +kernel
theorem fX_packed_84 : decode (m_cc M_X_packed) 84 = .ok (.lload_n 3, 1) := by decide +kernel
theorem fX_packed_85 : decode (m_cc M_X_packed) 85 = .ok (.bipush 10, 2) := by decide +kernel
theorem fX_packed_87 : decode (m_cc M_X_packed) 87 = .ok (.lshl, 1) := by decide +kernel
theorem fX_packed_88 : decode (m_cc M_X_packed) 88 = .ok (.aload_n 2, 1) := by decide +kernel
theorem fX_packed_89 : decode (m_cc M_X_packed) 89 = .ok (.getfield 85, 3) := by decide +kernel
theorem fX_packed_92 : decode (m_cc M_X_packed) 92 = .ok (.i2l, 1) := by decide +kernel
theorem fX_packed_93 : decode (m_cc M_X_packed) 93 = .ok (.lor, 1) := by decide +kernel
theorem fX_packed_94 : decode (m_cc M_X_packed) 94 = .ok (.lstore_n 3, 1) := by decide +kernel
theorem fX_packed_95 : decode (m_cc M_X_packed) 95 = .ok (.lload_n 3, 1) := by decide +kernel
theorem fX_packed_96 : decode (m_cc M_X_packed) 96 = .ok (.iconst 3, 1) := by decide +kernel
theorem fX_packed_97 : decode (m_cc M_X_packed) 97 = .ok (.lshl, 1) := by decide +kernel
theorem fX_packed_98 : decode (m_cc M_X_packed) 98 = .ok (.aload_n 2, 1) := by decide +kernel
theorem fX_packed_99 : decode (m_cc M_X_packed) 99 = .ok (.getfield 157, 3) := by decide +kernel
theorem fX_packed_102 : decode (m_cc M_X_packed) 102 = .ok (.i2l, 1) := by decide +kernel
theorem fX_packed_103 : decode (m_cc M_X_packed) 103 = .ok (.lor, 1) := by decide +kernel
theorem fX_packed_104 : decode (m_cc M_X_packed) 104 = .ok (.lstore_n 3, 1) := by decide +kernel
theorem fX_packed_105 : decode (m_cc M_X_packed) 105 = .ok (.lload_n 3, 1) := by decide +kernel
theorem fX_packed_106 : decode (m_cc M_X_packed) 106 = .ok (.iconst 5, 1) := by decide +kernel
theorem fX_packed_107 : decode (m_cc M_X_packed) 107 = .ok (.lshl, 1) := by decide +kernel
theorem fX_packed_108 : decode (m_cc M_X_packed) 108 = .ok (.aload_n 2, 1) := by decide +kernel
theorem fX_packed_109 : decode (m_cc M_X_packed) 109 = .ok (.getfield 192, 3) := by decide +kernel
theorem fX_packed_112 : decode (m_cc M_X_packed) 112 = .ok (.iconst 1, 1) := by decide +kernel
theorem fX_packed_113 : decode (m_cc M_X_packed) 113 = .ok (.iadd, 1) := by decide +kernel
theorem fX_packed_114 : decode (m_cc M_X_packed) 114 = .ok (.i2l, 1) := by decide +kernel
theorem fX_packed_115 : decode (m_cc M_X_packed) 115 = .ok (.lor, 1) := by decide +kernel
theorem fX_packed_116 : decode (m_cc M_X_packed) 116 = .ok (.lstore_n 3, 1) := by decide +kernel
theorem fX_packed_117 : decode (m_cc M_X_packed) 117 = .ok (.lload_n 3, 1) := by decide +kernel
theorem fX_packed_118 : decode (m_cc M_X_packed) 118 = .ok (.iconst 4, 1) := by decide +kernel
theorem fX_packed_119 : decode (m_cc M_X_packed) 119 = .ok (.lshl, 1) := by decide +kernel
theorem fX_packed_120 : decode (m_cc M_X_packed) 120 = .ok (.aload_n 2, 1) := by decide +kernel
theorem fX_packed_121 : decode (m_cc M_X_packed) 121 = .ok (.getfield 116, 3) := by decide +kernel
theorem fX_packed_124 : decode (m_cc M_X_packed) 124 = .ok (.i2l, 1) := by decide +kernel
theorem fX_packed_125 : decode (m_cc M_X_packed) 125 = .ok (.lor, 1) := by decide +kernel
theorem fX_packed_126 : decode (m_cc M_X_packed) 126 = .ok (.lreturn, 1) := by decide +kernel
theorem fX_count_0 : decode (m_cc M_X_count) 0 = .ok (.iload_n 1, 1) := by decide +kernel
theorem fX_count_1 : decode (m_cc M_X_count) 1 = .ok (.tableswitch 57 0 3 #[31, 39, 47, 52], 31) := by decide +kernel
theorem fX_count_32 : decode (m_cc M_X_count) 32 = .ok (.aload_n 0, 1) := by decide +kernel
theorem fX_count_33 : decode (m_cc M_X_count) 33 = .ok (.getfield 10, 3) := by decide +kernel
theorem fX_count_36 : decode (m_cc M_X_count) 36 = .ok (.invokevirtual 53, 3) := by decide +kernel
theorem fX_count_39 : decode (m_cc M_X_count) 39 = .ok (.ireturn, 1) := by decide +kernel
theorem fX_count_40 : decode (m_cc M_X_count) 40 = .ok (.aload_n 0, 1) := by decide +kernel
theorem fX_count_41 : decode (m_cc M_X_count) 41 = .ok (.getfield 16, 3) := by decide +kernel
theorem fX_count_44 : decode (m_cc M_X_count) 44 = .ok (.invokevirtual 53, 3) := by decide +kernel
theorem fX_count_47 : decode (m_cc M_X_count) 47 = .ok (.ireturn, 1) := by decide +kernel
theorem fX_count_48 : decode (m_cc M_X_count) 48 = .ok (.aload_n 0, 1) := by decide +kernel
theorem fX_count_49 : decode (m_cc M_X_count) 49 = .ok (.invokevirtual 195, 3) := by decide +kernel
theorem fX_count_52 : decode (m_cc M_X_count) 52 = .ok (.ireturn, 1) := by decide +kernel
theorem fX_count_53 : decode (m_cc M_X_count) 53 = .ok (.aload_n 0, 1) := by decide +kernel
theorem fX_count_54 : decode (m_cc M_X_count) 54 = .ok (.invokevirtual 198, 3) := by decide +kernel
theorem fX_count_57 : decode (m_cc M_X_count) 57 = .ok (.ireturn, 1) := by decide +kernel
theorem fX_count_58 : decode (m_cc M_X_count) 58 = .ok (.iconst (-1), 1) := by decide +kernel
theorem fX_count_59 : decode (m_cc M_X_count) 59 = .ok (.ireturn, 1) := by decide +kernel
theorem fX_orderAt_0 : decode (m_cc M_X_orderAt) 0 = .ok (.iload_n 1, 1) := by decide +kernel
theorem fX_orderAt_1 : decode (m_cc M_X_orderAt) 1 = .ok (.ifCond .lt 14, 3) := by decide +kernel
theorem fX_orderAt_4 : decode (m_cc M_X_orderAt) 4 = .ok (.iload_n 1, 1) := by decide +kernel
theorem fX_orderAt_5 : decode (m_cc M_X_orderAt) 5 = .ok (.aload_n 0, 1) := by decide +kernel
theorem fX_orderAt_6 : decode (m_cc M_X_orderAt) 6 = .ok (.getfield 10, 3) := by decide +kernel
theorem fX_orderAt_9 : decode (m_cc M_X_orderAt) 9 = .ok (.invokevirtual 53, 3) := by decide +kernel
theorem fX_orderAt_12 : decode (m_cc M_X_orderAt) 12 = .ok (.if_icmp .lt 13, 3) := by decide +kernel
theorem fX_orderAt_15 : decode (m_cc M_X_orderAt) 15 = .ok (.new 201, 3) := by decide +kernel
theorem fX_orderAt_18 : decode (m_cc M_X_orderAt) 18 = .ok (.dup, 1) := by decide +kernel
theorem fX_orderAt_19 : decode (m_cc M_X_orderAt) 19 = .ok (.ldc 203, 2) := by decide +kernel
theorem fX_orderAt_21 : decode (m_cc M_X_orderAt) 21 = .ok (.invokespecial 205, 3) := by decide +kernel
theorem fX_orderAt_24 : decode (m_cc M_X_orderAt) 24 = .ok (.athrow, 1) := by decide +kernel
theorem fX_orderAt_25 : decode (m_cc M_X_orderAt) 25 = .ok (.aload_n 0, 1) := by decide +kernel
theorem fX_orderAt_26 : decode (m_cc M_X_orderAt) 26 = .ok (.getfield 10, 3) := by decide +kernel
theorem fX_orderAt_29 : decode (m_cc M_X_orderAt) 29 = .ok (.iload_n 1, 1) := by decide +kernel
theorem fX_orderAt_30 : decode (m_cc M_X_orderAt) 30 = .ok (.invokevirtual 167, 3) := by decide +kernel
theorem fX_orderAt_33 : decode (m_cc M_X_orderAt) 33 = .ok (.checkcast 36, 3) := by decide +kernel
theorem fX_orderAt_36 : decode (m_cc M_X_orderAt) 36 = .ok (.areturn, 1) := by decide +kernel
theorem fX_lineAt_0 : decode (m_cc M_X_lineAt) 0 = .ok (.iload_n 1, 1) := by decide +kernel
theorem fX_lineAt_1 : decode (m_cc M_X_lineAt) 1 = .ok (.ifCond .lt 14, 3) := by decide +kernel
theorem fX_lineAt_4 : decode (m_cc M_X_lineAt) 4 = .ok (.iload_n 1, 1) := by decide +kernel
theorem fX_lineAt_5 : decode (m_cc M_X_lineAt) 5 = .ok (.aload_n 0, 1) := by decide +kernel
theorem fX_lineAt_6 : decode (m_cc M_X_lineAt) 6 = .ok (.getfield 16, 3) := by decide +kernel
theorem fX_lineAt_9 : decode (m_cc M_X_lineAt) 9 = .ok (.invokevirtual 53, 3) := by decide +kernel
theorem fX_lineAt_12 : decode (m_cc M_X_lineAt) 12 = .ok (.if_icmp .lt 13, 3) := by decide +kernel
theorem fX_lineAt_15 : decode (m_cc M_X_lineAt) 15 = .ok (.new 201, 3) := by decide +kernel
theorem fX_lineAt_18 : decode (m_cc M_X_lineAt) 18 = .ok (.dup, 1) := by decide +kernel
theorem fX_lineAt_19 : decode (m_cc M_X_lineAt) 19 = .ok (.ldc 206, 2) := by decide +kernel
theorem fX_lineAt_21 : decode (m_cc M_X_lineAt) 21 = .ok (.invokespecial 205, 3) := by decide +kernel
theorem fX_lineAt_24 : decode (m_cc M_X_lineAt) 24 = .ok (.athrow, 1) := by decide +kernel
theorem fX_lineAt_25 : decode (m_cc M_X_lineAt) 25 = .ok (.aload_n 0, 1) := by decide +kernel
theorem fX_lineAt_26 : decode (m_cc M_X_lineAt) 26 = .ok (.getfield 16, 3) := by decide +kernel
theorem fX_lineAt_29 : decode (m_cc M_X_lineAt) 29 = .ok (.iload_n 1, 1) := by decide +kernel
theorem fX_lineAt_30 : decode (m_cc M_X_lineAt) 30 = .ok (.invokevirtual 167, 3) := by decide +kernel
theorem fX_lineAt_33 : decode (m_cc M_X_lineAt) 33 = .ok (.checkcast 68, 3) := by decide +kernel
theorem fX_lineAt_36 : decode (m_cc M_X_lineAt) 36 = .ok (.areturn, 1) := by decide +kernel
theorem fX_requireRange_0 : decode (m_cc M_X_requireRange) 0 = .ok (.iload_n 0, 1) := by decide +kernel
theorem fX_requireRange_1 : decode (m_cc M_X_requireRange) 1 = .ok (.iload_n 1, 1) := by decide +kernel
theorem fX_requireRange_2 : decode (m_cc M_X_requireRange) 2 = .ok (.if_icmp .lt 8, 3) := by decide +kernel
theorem fX_requireRange_5 : decode (m_cc M_X_requireRange) 5 = .ok (.iload_n 0, 1) := by decide +kernel
theorem fX_requireRange_6 : decode (m_cc M_X_requireRange) 6 = .ok (.iload_n 2, 1) := by decide +kernel
theorem fX_requireRange_7 : decode (m_cc M_X_requireRange) 7 = .ok (.if_icmp .le 13, 3) := by decide +kernel
theorem fX_requireRange_10 : decode (m_cc M_X_requireRange) 10 = .ok (.new 182, 3) := by decide +kernel
theorem fX_requireRange_13 : decode (m_cc M_X_requireRange) 13 = .ok (.dup, 1) := by decide +kernel
theorem fX_requireRange_14 : decode (m_cc M_X_requireRange) 14 = .ok (.ldc 208, 2) := by decide +kernel
theorem fX_requireRange_16 : decode (m_cc M_X_requireRange) 16 = .ok (.invokespecial 186, 3) := by decide +kernel
theorem fX_requireRange_19 : decode (m_cc M_X_requireRange) 19 = .ok (.athrow, 1) := by decide +kernel
theorem fX_requireRange_20 : decode (m_cc M_X_requireRange) 20 = .ok (.return_, 1) := by decide +kernel
theorem fX_requireNotNegative_0 : decode (m_cc M_X_requireNotNegative) 0 = .ok (.iload_n 0, 1) := by decide +kernel
theorem fX_requireNotNegative_1 : decode (m_cc M_X_requireNotNegative) 1 = .ok (.ifCond .ge 13, 3) := by decide +kernel
theorem fX_requireNotNegative_4 : decode (m_cc M_X_requireNotNegative) 4 = .ok (.new 182, 3) := by decide +kernel
theorem fX_requireNotNegative_7 : decode (m_cc M_X_requireNotNegative) 7 = .ok (.dup, 1) := by decide +kernel
theorem fX_requireNotNegative_8 : decode (m_cc M_X_requireNotNegative) 8 = .ok (.ldc 210, 2) := by decide +kernel
theorem fX_requireNotNegative_10 : decode (m_cc M_X_requireNotNegative) 10 = .ok (.invokespecial 186, 3) := by decide +kernel
theorem fX_requireNotNegative_13 : decode (m_cc M_X_requireNotNegative) 13 = .ok (.athrow, 1) := by decide +kernel
theorem fX_requireNotNegative_14 : decode (m_cc M_X_requireNotNegative) 14 = .ok (.return_, 1) := by decide +kernel
theorem fX_requireState_0 : decode (m_cc M_X_requireState) 0 = .ok (.iload_n 0, 1) := by decide +kernel
theorem fX_requireState_1 : decode (m_cc M_X_requireState) 1 = .ok (.ifCond .ne 13, 3) := by decide +kernel
theorem fX_requireState_4 : decode (m_cc M_X_requireState) 4 = .ok (.new 212, 3) := by decide +kernel
theorem fX_requireState_7 : decode (m_cc M_X_requireState) 7 = .ok (.dup, 1) := by decide +kernel
theorem fX_requireState_8 : decode (m_cc M_X_requireState) 8 = .ok (.ldc 214, 2) := by decide +kernel
theorem fX_requireState_10 : decode (m_cc M_X_requireState) 10 = .ok (.invokespecial 216, 3) := by decide +kernel
theorem fX_requireState_13 : decode (m_cc M_X_requireState) 13 = .ok (.athrow, 1) := by decide +kernel
theorem fX_requireState_14 : decode (m_cc M_X_requireState) 14 = .ok (.return_, 1) := by decide +kernel
theorem fX_requireRoom_0 : decode (m_cc M_X_requireRoom) 0 = .ok (.iload_n 0, 1) := by decide +kernel
theorem fX_requireRoom_1 : decode (m_cc M_X_requireRoom) 1 = .ok (.ifCond .ne 13, 3) := by decide +kernel
theorem fX_requireRoom_4 : decode (m_cc M_X_requireRoom) 4 = .ok (.new 217, 3) := by decide +kernel
theorem fX_requireRoom_7 : decode (m_cc M_X_requireRoom) 7 = .ok (.dup, 1) := by decide +kernel
theorem fX_requireRoom_8 : decode (m_cc M_X_requireRoom) 8 = .ok (.ldc 219, 2) := by decide +kernel
theorem fX_requireRoom_10 : decode (m_cc M_X_requireRoom) 10 = .ok (.invokespecial 221, 3) := by decide +kernel
theorem fX_requireRoom_13 : decode (m_cc M_X_requireRoom) 13 = .ok (.athrow, 1) := by decide +kernel
theorem fX_requireRoom_14 : decode (m_cc M_X_requireRoom) 14 = .ok (.return_, 1) := by decide +kernel
theorem fX_requireRoomForOrder_0 : decode (m_cc M_X_requireRoomForOrder) 0 = .ok (.aload_n 0, 1) := by decide +kernel
theorem fX_requireRoomForOrder_1 : decode (m_cc M_X_requireRoomForOrder) 1 = .ok (.getfield 10, 3) := by decide +kernel
theorem fX_requireRoomForOrder_4 : decode (m_cc M_X_requireRoomForOrder) 4 = .ok (.invokevirtual 53, 3) := by decide +kernel
theorem fX_requireRoomForOrder_7 : decode (m_cc M_X_requireRoomForOrder) 7 = .ok (.bipush 20, 2) := by decide +kernel
theorem fX_requireRoomForOrder_9 : decode (m_cc M_X_requireRoomForOrder) 9 = .ok (.if_icmp .ge 7, 3) := by decide +kernel
theorem fX_requireRoomForOrder_12 : decode (m_cc M_X_requireRoomForOrder) 12 = .ok (.iconst 1, 1) := by decide +kernel
theorem fX_requireRoomForOrder_13 : decode (m_cc M_X_requireRoomForOrder) 13 = .ok (.goto 4, 3) := by decide +kernel
theorem fX_requireRoomForOrder_16 : decode (m_cc M_X_requireRoomForOrder) 16 = .ok (.iconst 0, 1) := by decide +kernel
theorem fX_requireRoomForOrder_17 : decode (m_cc M_X_requireRoomForOrder) 17 = .ok (.invokestatic 57, 3) := by decide +kernel
theorem fX_requireRoomForOrder_20 : decode (m_cc M_X_requireRoomForOrder) 20 = .ok (.return_, 1) := by decide +kernel
theorem fX_requireRoomForLine_0 : decode (m_cc M_X_requireRoomForLine) 0 = .ok (.aload_n 0, 1) := by decide +kernel
theorem fX_requireRoomForLine_1 : decode (m_cc M_X_requireRoomForLine) 1 = .ok (.getfield 16, 3) := by decide +kernel
theorem fX_requireRoomForLine_4 : decode (m_cc M_X_requireRoomForLine) 4 = .ok (.invokevirtual 53, 3) := by decide +kernel
theorem fX_requireRoomForLine_7 : decode (m_cc M_X_requireRoomForLine) 7 = .ok (.bipush 60, 2) := by decide +kernel
theorem fX_requireRoomForLine_9 : decode (m_cc M_X_requireRoomForLine) 9 = .ok (.if_icmp .ge 7, 3) := by decide +kernel
theorem fX_requireRoomForLine_12 : decode (m_cc M_X_requireRoomForLine) 12 = .ok (.iconst 1, 1) := by decide +kernel
theorem fX_requireRoomForLine_13 : decode (m_cc M_X_requireRoomForLine) 13 = .ok (.goto 4, 3) := by decide +kernel
theorem fX_requireRoomForLine_16 : decode (m_cc M_X_requireRoomForLine) 16 = .ok (.iconst 0, 1) := by decide +kernel
theorem fX_requireRoomForLine_17 : decode (m_cc M_X_requireRoomForLine) 17 = .ok (.invokestatic 57, 3) := by decide +kernel
theorem fX_requireRoomForLine_20 : decode (m_cc M_X_requireRoomForLine) 20 = .ok (.return_, 1) := by decide +kernel
theorem fX_requireChangeValue_0 : decode (m_cc M_X_requireChangeValue) 0 = .ok (.iload_n 0, 1) := by decide +kernel
theorem fX_requireChangeValue_1 : decode (m_cc M_X_requireChangeValue) 1 = .ok (.ifCond .ne 14, 3) := by decide +kernel
theorem fX_requireChangeValue_4 : decode (m_cc M_X_requireChangeValue) 4 = .ok (.iload_n 1, 1) := by decide +kernel
theorem fX_requireChangeValue_5 : decode (m_cc M_X_requireChangeValue) 5 = .ok (.iconst 1, 1) := by decide +kernel
theorem fX_requireChangeValue_6 : decode (m_cc M_X_requireChangeValue) 6 = .ok (.sipush 1000, 3) := by decide +kernel
theorem fX_requireChangeValue_9 : decode (m_cc M_X_requireChangeValue) 9 = .ok (.invokestatic 19, 3) := by decide +kernel
theorem fX_requireChangeValue_12 : decode (m_cc M_X_requireChangeValue) 12 = .ok (.goto 25, 3) := by decide +kernel
theorem fX_requireChangeValue_15 : decode (m_cc M_X_requireChangeValue) 15 = .ok (.iload_n 0, 1) := by decide +kernel
theorem fX_requireChangeValue_16 : decode (m_cc M_X_requireChangeValue) 16 = .ok (.iconst 1, 1) := by decide +kernel
theorem fX_requireChangeValue_17 : decode (m_cc M_X_requireChangeValue) 17 = .ok (.if_icmp .ne 13, 3) := by decide +kernel
theorem fX_requireChangeValue_20 : decode (m_cc M_X_requireChangeValue) 20 = .ok (.iload_n 1, 1) := by decide +kernel
theorem fX_requireChangeValue_21 : decode (m_cc M_X_requireChangeValue) 21 = .ok (.iconst 0, 1) := by decide +kernel
theorem fX_requireChangeValue_22 : decode (m_cc M_X_requireChangeValue) 22 = .ok (.bipush 15, 2) := by decide +kernel
theorem fX_requireChangeValue_24 : decode (m_cc M_X_requireChangeValue) 24 = .ok (.invokestatic 19, 3) := by decide +kernel
theorem fX_requireChangeValue_27 : decode (m_cc M_X_requireChangeValue) 27 = .ok (.goto 10, 3) := by decide +kernel
theorem fX_requireChangeValue_30 : decode (m_cc M_X_requireChangeValue) 30 = .ok (.iload_n 1, 1) := by decide +kernel
theorem fX_requireChangeValue_31 : decode (m_cc M_X_requireChangeValue) 31 = .ok (.iconst 0, 1) := by decide +kernel
theorem fX_requireChangeValue_32 : decode (m_cc M_X_requireChangeValue) 32 = .ok (.bipush 7, 2) := by decide +kernel
theorem fX_requireChangeValue_34 : decode (m_cc M_X_requireChangeValue) 34 = .ok (.invokestatic 19, 3) := by decide +kernel
theorem fX_requireChangeValue_37 : decode (m_cc M_X_requireChangeValue) 37 = .ok (.return_, 1) := by decide +kernel
theorem fX_phaseLetsChange_0 : decode (m_cc M_X_phaseLetsChange) 0 = .ok (.iload_n 0, 1) := by decide +kernel
theorem fX_phaseLetsChange_1 : decode (m_cc M_X_phaseLetsChange) 1 = .ok (.ifCond .eq 13, 3) := by decide +kernel
theorem fX_phaseLetsChange_4 : decode (m_cc M_X_phaseLetsChange) 4 = .ok (.iload_n 0, 1) := by decide +kernel
theorem fX_phaseLetsChange_5 : decode (m_cc M_X_phaseLetsChange) 5 = .ok (.iconst 1, 1) := by decide +kernel
theorem fX_phaseLetsChange_6 : decode (m_cc M_X_phaseLetsChange) 6 = .ok (.if_icmp .ne 12, 3) := by decide +kernel
theorem fX_phaseLetsChange_9 : decode (m_cc M_X_phaseLetsChange) 9 = .ok (.iload_n 1, 1) := by decide +kernel
theorem fX_phaseLetsChange_10 : decode (m_cc M_X_phaseLetsChange) 10 = .ok (.iconst 2, 1) := by decide +kernel
theorem fX_phaseLetsChange_11 : decode (m_cc M_X_phaseLetsChange) 11 = .ok (.if_icmp .ne 7, 3) := by decide +kernel
theorem fX_phaseLetsChange_14 : decode (m_cc M_X_phaseLetsChange) 14 = .ok (.iconst 1, 1) := by decide +kernel
theorem fX_phaseLetsChange_15 : decode (m_cc M_X_phaseLetsChange) 15 = .ok (.goto 4, 3) := by decide +kernel
theorem fX_phaseLetsChange_18 : decode (m_cc M_X_phaseLetsChange) 18 = .ok (.iconst 0, 1) := by decide +kernel
theorem fX_phaseLetsChange_19 : decode (m_cc M_X_phaseLetsChange) 19 = .ok (.ireturn, 1) := by decide +kernel
theorem fX_applyChange_0 : decode (m_cc M_X_applyChange) 0 = .ok (.iload_n 1, 1) := by decide +kernel
theorem fX_applyChange_1 : decode (m_cc M_X_applyChange) 1 = .ok (.ifCond .ne 23, 3) := by decide +kernel
theorem fX_applyChange_4 : decode (m_cc M_X_applyChange) 4 = .ok (.aload_n 0, 1) := by decide +kernel
theorem fX_applyChange_5 : decode (m_cc M_X_applyChange) 5 = .ok (.iload_n 2, 1) := by decide +kernel
theorem fX_applyChange_6 : decode (m_cc M_X_applyChange) 6 = .ok (.putfield 85, 3) := by decide +kernel
theorem fX_applyChange_9 : decode (m_cc M_X_applyChange) 9 = .ok (.aload_n 0, 1) := by decide +kernel
theorem fX_applyChange_10 : decode (m_cc M_X_applyChange) 10 = .ok (.aload_n 0, 1) := by decide +kernel
theorem fX_applyChange_11 : decode (m_cc M_X_applyChange) 11 = .ok (.getfield 82, 3) := by decide +kernel
theorem fX_applyChange_14 : decode (m_cc M_X_applyChange) 14 = .ok (.iload_n 2, 1) := by decide +kernel
theorem fX_applyChange_15 : decode (m_cc M_X_applyChange) 15 = .ok (.invokestatic 222, 3) := by decide +kernel
theorem fX_applyChange_18 : decode (m_cc M_X_applyChange) 18 = .ok (.putfield 82, 3) := by decide +kernel
theorem fX_applyChange_21 : decode (m_cc M_X_applyChange) 21 = .ok (.goto 21, 3) := by decide +kernel
theorem fX_applyChange_24 : decode (m_cc M_X_applyChange) 24 = .ok (.iload_n 1, 1) := by decide +kernel
theorem fX_applyChange_25 : decode (m_cc M_X_applyChange) 25 = .ok (.iconst 1, 1) := by decide +kernel
theorem fX_applyChange_26 : decode (m_cc M_X_applyChange) 26 = .ok (.if_icmp .ne 11, 3) := by decide +kernel
theorem fX_applyChange_29 : decode (m_cc M_X_applyChange) 29 = .ok (.aload_n 0, 1) := by decide +kernel
theorem fX_applyChange_30 : decode (m_cc M_X_applyChange) 30 = .ok (.iload_n 2, 1) := by decide +kernel
theorem fX_applyChange_31 : decode (m_cc M_X_applyChange) 31 = .ok (.putfield 192, 3) := by decide +kernel
theorem fX_applyChange_34 : decode (m_cc M_X_applyChange) 34 = .ok (.goto 8, 3) := by decide +kernel
theorem fX_applyChange_37 : decode (m_cc M_X_applyChange) 37 = .ok (.aload_n 0, 1) := by decide +kernel
theorem fX_applyChange_38 : decode (m_cc M_X_applyChange) 38 = .ok (.iload_n 2, 1) := by decide +kernel
theorem fX_applyChange_39 : decode (m_cc M_X_applyChange) 39 = .ok (.putfield 157, 3) := by decide +kernel
theorem fX_applyChange_42 : decode (m_cc M_X_applyChange) 42 = .ok (.return_, 1) := by decide +kernel
theorem fX_firstWithOwnNumber_0 : decode (m_cc M_X_firstWithOwnNumber) 0 = .ok (.iconst 0, 1) := by decide +kernel
theorem fX_firstWithOwnNumber_1 : decode (m_cc M_X_firstWithOwnNumber) 1 = .ok (.istore_n 3, 1) := by decide +kernel
theorem fX_firstWithOwnNumber_2 : decode (m_cc M_X_firstWithOwnNumber) 2 = .ok (.iload_n 3, 1) := by decide +kernel
theorem fX_firstWithOwnNumber_3 : decode (m_cc M_X_firstWithOwnNumber) 3 = .ok (.aload_n 0, 1) := by decide +kernel
theorem fX_firstWithOwnNumber_4 : decode (m_cc M_X_firstWithOwnNumber) 4 = .ok (.getfield 10, 3) := by decide +kernel
theorem fX_firstWithOwnNumber_7 : decode (m_cc M_X_firstWithOwnNumber) 7 = .ok (.invokevirtual 53, 3) := by decide +kernel
theorem fX_firstWithOwnNumber_10 : decode (m_cc M_X_firstWithOwnNumber) 10 = .ok (.if_icmp .ge 42, 3) := by decide +kernel
theorem fX_firstWithOwnNumber_13 : decode (m_cc M_X_firstWithOwnNumber) 13 = .ok (.aload_n 0, 1) := by decide +kernel
theorem fX_firstWithOwnNumber_14 : decode (m_cc M_X_firstWithOwnNumber) 14 = .ok (.getfield 10, 3) := by decide +kernel
theorem fX_firstWithOwnNumber_17 : decode (m_cc M_X_firstWithOwnNumber) 17 = .ok (.iload_n 3, 1) := by decide +kernel
theorem fX_firstWithOwnNumber_18 : decode (m_cc M_X_firstWithOwnNumber) 18 = .ok (.invokevirtual 167, 3) := by decide +kernel
theorem fX_firstWithOwnNumber_21 : decode (m_cc M_X_firstWithOwnNumber) 21 = .ok (.checkcast 36, 3) := by decide +kernel
theorem fX_firstWithOwnNumber_24 : decode (m_cc M_X_firstWithOwnNumber) 24 = .ok (.astore 4, 2) := by decide +kernel
theorem fX_firstWithOwnNumber_26 : decode (m_cc M_X_firstWithOwnNumber) 26 = .ok (.aload 4, 2) := by decide +kernel
theorem fX_firstWithOwnNumber_28 : decode (m_cc M_X_firstWithOwnNumber) 28 = .ok (.getfield 129, 3) := by decide +kernel
theorem fX_firstWithOwnNumber_31 : decode (m_cc M_X_firstWithOwnNumber) 31 = .ok (.iload_n 1, 1) := by decide +kernel
theorem fX_firstWithOwnNumber_32 : decode (m_cc M_X_firstWithOwnNumber) 32 = .ok (.if_icmp .ne 14, 3) := by decide +kernel
theorem fX_firstWithOwnNumber_35 : decode (m_cc M_X_firstWithOwnNumber) 35 = .ok (.aload 4, 2) := by decide +kernel
theorem fX_firstWithOwnNumber_37 : decode (m_cc M_X_firstWithOwnNumber) 37 = .ok (.getfield 178, 3) := by decide +kernel
theorem fX_firstWithOwnNumber_40 : decode (m_cc M_X_firstWithOwnNumber) 40 = .ok (.iload_n 2, 1) := by decide +kernel
theorem fX_firstWithOwnNumber_41 : decode (m_cc M_X_firstWithOwnNumber) 41 = .ok (.if_icmp .ne 5, 3) := by decide +kernel
theorem fX_firstWithOwnNumber_44 : decode (m_cc M_X_firstWithOwnNumber) 44 = .ok (.iload_n 3, 1) := by decide +kernel
theorem fX_firstWithOwnNumber_45 : decode (m_cc M_X_firstWithOwnNumber) 45 = .ok (.ireturn, 1) := by decide +kernel
theorem fX_firstWithOwnNumber_46 : decode (m_cc M_X_firstWithOwnNumber) 46 = .ok (.iinc 3 1, 3) := by decide +kernel
theorem fX_firstWithOwnNumber_49 : decode (m_cc M_X_firstWithOwnNumber) 49 = .ok (.goto (-47), 3) := by decide +kernel
theorem fX_firstWithOwnNumber_52 : decode (m_cc M_X_firstWithOwnNumber) 52 = .ok (.iconst (-1), 1) := by decide +kernel
theorem fX_firstWithOwnNumber_53 : decode (m_cc M_X_firstWithOwnNumber) 53 = .ok (.ireturn, 1) := by decide +kernel
theorem fX_addOrder_0 : decode (m_cc M_X_addOrder) 0 = .ok (.new 36, 3) := by decide +kernel
theorem fX_addOrder_3 : decode (m_cc M_X_addOrder) 3 = .ok (.dup, 1) := by decide +kernel
theorem fX_addOrder_4 : decode (m_cc M_X_addOrder) 4 = .ok (.aload_n 0, 1) := by decide +kernel
theorem fX_addOrder_5 : decode (m_cc M_X_addOrder) 5 = .ok (.getfield 10, 3) := by decide +kernel
theorem fX_addOrder_8 : decode (m_cc M_X_addOrder) 8 = .ok (.invokevirtual 53, 3) := by decide +kernel
theorem fX_addOrder_11 : decode (m_cc M_X_addOrder) 11 = .ok (.iload_n 1, 1) := by decide +kernel
theorem fX_addOrder_12 : decode (m_cc M_X_addOrder) 12 = .ok (.iload_n 2, 1) := by decide +kernel
theorem fX_addOrder_13 : decode (m_cc M_X_addOrder) 13 = .ok (.iload_n 3, 1) := by decide +kernel
theorem fX_addOrder_14 : decode (m_cc M_X_addOrder) 14 = .ok (.iload 4, 2) := by decide +kernel
theorem fX_addOrder_16 : decode (m_cc M_X_addOrder) 16 = .ok (.invokespecial 227, 3) := by decide +kernel
theorem fX_addOrder_19 : decode (m_cc M_X_addOrder) 19 = .ok (.astore 5, 2) := by decide +kernel
theorem fX_addOrder_21 : decode (m_cc M_X_addOrder) 21 = .ok (.aload_n 0, 1) := by decide +kernel
theorem fX_addOrder_22 : decode (m_cc M_X_addOrder) 22 = .ok (.getfield 10, 3) := by decide +kernel
theorem fX_addOrder_25 : decode (m_cc M_X_addOrder) 25 = .ok (.aload 5, 2) := by decide +kernel
theorem fX_addOrder_27 : decode (m_cc M_X_addOrder) 27 = .ok (.invokevirtual 230, 3) := by decide +kernel
theorem fX_addOrder_30 : decode (m_cc M_X_addOrder) 30 = .ok (.pop, 1) := by decide +kernel
theorem fX_addOrder_31 : decode (m_cc M_X_addOrder) 31 = .ok (.aload 5, 2) := by decide +kernel
theorem fX_addOrder_33 : decode (m_cc M_X_addOrder) 33 = .ok (.areturn, 1) := by decide +kernel
theorem fX_addLine_0 : decode (m_cc M_X_addLine) 0 = .ok (.new 68, 3) := by decide +kernel
theorem fX_addLine_3 : decode (m_cc M_X_addLine) 3 = .ok (.dup, 1) := by decide +kernel
theorem fX_addLine_4 : decode (m_cc M_X_addLine) 4 = .ok (.aload_n 0, 1) := by decide +kernel
theorem fX_addLine_5 : decode (m_cc M_X_addLine) 5 = .ok (.getfield 16, 3) := by decide +kernel
theorem fX_addLine_8 : decode (m_cc M_X_addLine) 8 = .ok (.invokevirtual 53, 3) := by decide +kernel
theorem fX_addLine_11 : decode (m_cc M_X_addLine) 11 = .ok (.aload_n 1, 1) := by decide +kernel
theorem fX_addLine_12 : decode (m_cc M_X_addLine) 12 = .ok (.iload_n 2, 1) := by decide +kernel
theorem fX_addLine_13 : decode (m_cc M_X_addLine) 13 = .ok (.iload_n 3, 1) := by decide +kernel
theorem fX_addLine_14 : decode (m_cc M_X_addLine) 14 = .ok (.iload 4, 2) := by decide +kernel
theorem fX_addLine_16 : decode (m_cc M_X_addLine) 16 = .ok (.invokespecial 234, 3) := by decide +kernel
theorem fX_addLine_19 : decode (m_cc M_X_addLine) 19 = .ok (.astore 5, 2) := by decide +kernel
theorem fX_addLine_21 : decode (m_cc M_X_addLine) 21 = .ok (.aload_n 0, 1) := by decide +kernel
theorem fX_addLine_22 : decode (m_cc M_X_addLine) 22 = .ok (.getfield 16, 3) := by decide +kernel
theorem fX_addLine_25 : decode (m_cc M_X_addLine) 25 = .ok (.aload 5, 2) := by decide +kernel
theorem fX_addLine_27 : decode (m_cc M_X_addLine) 27 = .ok (.invokevirtual 230, 3) := by decide +kernel
theorem fX_addLine_30 : decode (m_cc M_X_addLine) 30 = .ok (.pop, 1) := by decide +kernel
theorem fX_addLine_31 : decode (m_cc M_X_addLine) 31 = .ok (.aload_n 1, 1) := by decide +kernel
theorem fX_addLine_32 : decode (m_cc M_X_addLine) 32 = .ok (.getfield 52, 3) := by decide +kernel
theorem fX_addLine_35 : decode (m_cc M_X_addLine) 35 = .ok (.aload 5, 2) := by decide +kernel
theorem fX_addLine_37 : decode (m_cc M_X_addLine) 37 = .ok (.invokevirtual 230, 3) := by decide +kernel
theorem fX_addLine_40 : decode (m_cc M_X_addLine) 40 = .ok (.pop, 1) := by decide +kernel
theorem fX_addLine_41 : decode (m_cc M_X_addLine) 41 = .ok (.aload_n 1, 1) := by decide +kernel
theorem fX_addLine_42 : decode (m_cc M_X_addLine) 42 = .ok (.dup, 1) := by decide +kernel
theorem fX_addLine_43 : decode (m_cc M_X_addLine) 43 = .ok (.getfield 88, 3) := by decide +kernel
theorem fX_addLine_46 : decode (m_cc M_X_addLine) 46 = .ok (.iconst 1, 1) := by decide +kernel
theorem fX_addLine_47 : decode (m_cc M_X_addLine) 47 = .ok (.iadd, 1) := by decide +kernel
theorem fX_addLine_48 : decode (m_cc M_X_addLine) 48 = .ok (.putfield 88, 3) := by decide +kernel
theorem fX_addLine_51 : decode (m_cc M_X_addLine) 51 = .ok (.aload 5, 2) := by decide +kernel
theorem fX_addLine_53 : decode (m_cc M_X_addLine) 53 = .ok (.areturn, 1) := by decide +kernel
theorem fX_waitingBefore_0 : decode (m_cc M_X_waitingBefore) 0 = .ok (.iconst 0, 1) := by decide +kernel
theorem fX_waitingBefore_1 : decode (m_cc M_X_waitingBefore) 1 = .ok (.istore_n 2, 1) := by decide +kernel
theorem fX_waitingBefore_2 : decode (m_cc M_X_waitingBefore) 2 = .ok (.iconst 0, 1) := by decide +kernel
theorem fX_waitingBefore_3 : decode (m_cc M_X_waitingBefore) 3 = .ok (.istore_n 3, 1) := by decide +kernel
theorem fX_waitingBefore_4 : decode (m_cc M_X_waitingBefore) 4 = .ok (.iload_n 3, 1) := by decide +kernel
theorem fX_waitingBefore_5 : decode (m_cc M_X_waitingBefore) 5 = .ok (.aload_n 0, 1) := by decide +kernel
theorem fX_waitingBefore_6 : decode (m_cc M_X_waitingBefore) 6 = .ok (.getfield 10, 3) := by decide +kernel
theorem fX_waitingBefore_9 : decode (m_cc M_X_waitingBefore) 9 = .ok (.invokevirtual 53, 3) := by decide +kernel
theorem fX_waitingBefore_12 : decode (m_cc M_X_waitingBefore) 12 = .ok (.if_icmp .ge 42, 3) := by decide +kernel
theorem fX_waitingBefore_15 : decode (m_cc M_X_waitingBefore) 15 = .ok (.aload_n 0, 1) := by decide +kernel
theorem fX_waitingBefore_16 : decode (m_cc M_X_waitingBefore) 16 = .ok (.getfield 10, 3) := by decide +kernel
theorem fX_waitingBefore_19 : decode (m_cc M_X_waitingBefore) 19 = .ok (.iload_n 3, 1) := by decide +kernel
theorem fX_waitingBefore_20 : decode (m_cc M_X_waitingBefore) 20 = .ok (.invokevirtual 167, 3) := by decide +kernel
theorem fX_waitingBefore_23 : decode (m_cc M_X_waitingBefore) 23 = .ok (.checkcast 36, 3) := by decide +kernel
theorem fX_waitingBefore_26 : decode (m_cc M_X_waitingBefore) 26 = .ok (.astore 4, 2) := by decide +kernel
theorem fX_waitingBefore_28 : decode (m_cc M_X_waitingBefore) 28 = .ok (.aload 4, 2) := by decide +kernel
theorem fX_waitingBefore_30 : decode (m_cc M_X_waitingBefore) 30 = .ok (.invokevirtual 171, 3) := by decide +kernel
theorem fX_waitingBefore_33 : decode (m_cc M_X_waitingBefore) 33 = .ok (.ifCond .eq 15, 3) := by decide +kernel
theorem fX_waitingBefore_36 : decode (m_cc M_X_waitingBefore) 36 = .ok (.aload 4, 2) := by decide +kernel
theorem fX_waitingBefore_38 : decode (m_cc M_X_waitingBefore) 38 = .ok (.aload_n 1, 1) := by decide +kernel
theorem fX_waitingBefore_39 : decode (m_cc M_X_waitingBefore) 39 = .ok (.invokevirtual 237, 3) := by decide +kernel
theorem fX_waitingBefore_42 : decode (m_cc M_X_waitingBefore) 42 = .ok (.ifCond .eq 6, 3) := by decide +kernel
theorem fX_waitingBefore_45 : decode (m_cc M_X_waitingBefore) 45 = .ok (.iinc 2 1, 3) := by decide +kernel
theorem fX_waitingBefore_48 : decode (m_cc M_X_waitingBefore) 48 = .ok (.iinc 3 1, 3) := by decide +kernel
theorem fX_waitingBefore_51 : decode (m_cc M_X_waitingBefore) 51 = .ok (.goto (-47), 3) := by decide +kernel
theorem fX_waitingBefore_54 : decode (m_cc M_X_waitingBefore) 54 = .ok (.iload_n 2, 1) := by decide +kernel
theorem fX_waitingBefore_55 : decode (m_cc M_X_waitingBefore) 55 = .ok (.ireturn, 1) := by decide +kernel
theorem fX_piecesHeld_0 : decode (m_cc M_X_piecesHeld) 0 = .ok (.iconst 0, 1) := by decide +kernel
theorem fX_piecesHeld_1 : decode (m_cc M_X_piecesHeld) 1 = .ok (.istore_n 1, 1) := by decide +kernel
theorem fX_piecesHeld_2 : decode (m_cc M_X_piecesHeld) 2 = .ok (.iconst 0, 1) := by decide +kernel
theorem fX_piecesHeld_3 : decode (m_cc M_X_piecesHeld) 3 = .ok (.istore_n 2, 1) := by decide +kernel
theorem fX_piecesHeld_4 : decode (m_cc M_X_piecesHeld) 4 = .ok (.iload_n 2, 1) := by decide +kernel
theorem fX_piecesHeld_5 : decode (m_cc M_X_piecesHeld) 5 = .ok (.aload_n 0, 1) := by decide +kernel
theorem fX_piecesHeld_6 : decode (m_cc M_X_piecesHeld) 6 = .ok (.getfield 16, 3) := by decide +kernel
theorem fX_piecesHeld_9 : decode (m_cc M_X_piecesHeld) 9 = .ok (.invokevirtual 53, 3) := by decide +kernel
theorem fX_piecesHeld_12 : decode (m_cc M_X_piecesHeld) 12 = .ok (.if_icmp .ge 46, 3) := by decide +kernel
theorem fX_piecesHeld_15 : decode (m_cc M_X_piecesHeld) 15 = .ok (.aload_n 0, 1) := by decide +kernel
theorem fX_piecesHeld_16 : decode (m_cc M_X_piecesHeld) 16 = .ok (.getfield 16, 3) := by decide +kernel
theorem fX_piecesHeld_19 : decode (m_cc M_X_piecesHeld) 19 = .ok (.iload_n 2, 1) := by decide +kernel
theorem fX_piecesHeld_20 : decode (m_cc M_X_piecesHeld) 20 = .ok (.invokevirtual 167, 3) := by decide +kernel
theorem fX_piecesHeld_23 : decode (m_cc M_X_piecesHeld) 23 = .ok (.checkcast 68, 3) := by decide +kernel
theorem fX_piecesHeld_26 : decode (m_cc M_X_piecesHeld) 26 = .ok (.astore_n 3, 1) := by decide +kernel
theorem fX_piecesHeld_27 : decode (m_cc M_X_piecesHeld) 27 = .ok (.aload_n 3, 1) := by decide +kernel
theorem fX_piecesHeld_28 : decode (m_cc M_X_piecesHeld) 28 = .ok (.getfield 78, 3) := by decide +kernel
theorem fX_piecesHeld_31 : decode (m_cc M_X_piecesHeld) 31 = .ok (.ifCond .eq 21, 3) := by decide +kernel
theorem fX_piecesHeld_34 : decode (m_cc M_X_piecesHeld) 34 = .ok (.aload_n 3, 1) := by decide +kernel
theorem fX_piecesHeld_35 : decode (m_cc M_X_piecesHeld) 35 = .ok (.getfield 74, 3) := by decide +kernel
theorem fX_piecesHeld_38 : decode (m_cc M_X_piecesHeld) 38 = .ok (.getfield 45, 3) := by decide +kernel
theorem fX_piecesHeld_41 : decode (m_cc M_X_piecesHeld) 41 = .ok (.iconst 4, 1) := by decide +kernel
theorem fX_piecesHeld_42 : decode (m_cc M_X_piecesHeld) 42 = .ok (.if_icmp .ge 10, 3) := by decide +kernel
theorem fX_piecesHeld_45 : decode (m_cc M_X_piecesHeld) 45 = .ok (.iload_n 1, 1) := by decide +kernel
theorem fX_piecesHeld_46 : decode (m_cc M_X_piecesHeld) 46 = .ok (.aload_n 3, 1) := by decide +kernel
theorem fX_piecesHeld_47 : decode (m_cc M_X_piecesHeld) 47 = .ok (.getfield 82, 3) := by decide +kernel
theorem fX_piecesHeld_50 : decode (m_cc M_X_piecesHeld) 50 = .ok (.iadd, 1) := by decide +kernel
theorem fX_piecesHeld_51 : decode (m_cc M_X_piecesHeld) 51 = .ok (.istore_n 1, 1) := by decide +kernel
theorem fX_piecesHeld_52 : decode (m_cc M_X_piecesHeld) 52 = .ok (.iinc 2 1, 3) := by decide +kernel
theorem fX_piecesHeld_55 : decode (m_cc M_X_piecesHeld) 55 = .ok (.goto (-51), 3) := by decide +kernel
theorem fX_piecesHeld_58 : decode (m_cc M_X_piecesHeld) 58 = .ok (.iload_n 1, 1) := by decide +kernel
theorem fX_piecesHeld_59 : decode (m_cc M_X_piecesHeld) 59 = .ok (.ireturn, 1) := by decide +kernel
theorem fX_piecesShipped_0 : decode (m_cc M_X_piecesShipped) 0 = .ok (.iconst 0, 1) := by decide +kernel
theorem fX_piecesShipped_1 : decode (m_cc M_X_piecesShipped) 1 = .ok (.istore_n 1, 1) := by decide +kernel
theorem fX_piecesShipped_2 : decode (m_cc M_X_piecesShipped) 2 = .ok (.iconst 0, 1) := by decide +kernel
theorem fX_piecesShipped_3 : decode (m_cc M_X_piecesShipped) 3 = .ok (.istore_n 2, 1) := by decide +kernel
theorem fX_piecesShipped_4 : decode (m_cc M_X_piecesShipped) 4 = .ok (.iload_n 2, 1) := by decide +kernel
theorem fX_piecesShipped_5 : decode (m_cc M_X_piecesShipped) 5 = .ok (.aload_n 0, 1) := by decide +kernel
theorem fX_piecesShipped_6 : decode (m_cc M_X_piecesShipped) 6 = .ok (.getfield 16, 3) := by decide +kernel
theorem fX_piecesShipped_9 : decode (m_cc M_X_piecesShipped) 9 = .ok (.invokevirtual 53, 3) := by decide +kernel
theorem fX_piecesShipped_12 : decode (m_cc M_X_piecesShipped) 12 = .ok (.if_icmp .ge 26, 3) := by decide +kernel
theorem fX_piecesShipped_15 : decode (m_cc M_X_piecesShipped) 15 = .ok (.iload_n 1, 1) := by decide +kernel
theorem fX_piecesShipped_16 : decode (m_cc M_X_piecesShipped) 16 = .ok (.aload_n 0, 1) := by decide +kernel
theorem fX_piecesShipped_17 : decode (m_cc M_X_piecesShipped) 17 = .ok (.getfield 16, 3) := by decide +kernel
theorem fX_piecesShipped_20 : decode (m_cc M_X_piecesShipped) 20 = .ok (.iload_n 2, 1) := by decide +kernel
theorem fX_piecesShipped_21 : decode (m_cc M_X_piecesShipped) 21 = .ok (.invokevirtual 167, 3) := by decide +kernel
theorem fX_piecesShipped_24 : decode (m_cc M_X_piecesShipped) 24 = .ok (.checkcast 68, 3) := by decide +kernel
theorem fX_piecesShipped_27 : decode (m_cc M_X_piecesShipped) 27 = .ok (.getfield 189, 3) := by decide +kernel
theorem fX_piecesShipped_30 : decode (m_cc M_X_piecesShipped) 30 = .ok (.iadd, 1) := by decide +kernel
theorem fX_piecesShipped_31 : decode (m_cc M_X_piecesShipped) 31 = .ok (.istore_n 1, 1) := by decide +kernel
theorem fX_piecesShipped_32 : decode (m_cc M_X_piecesShipped) 32 = .ok (.iinc 2 1, 3) := by decide +kernel
theorem fX_piecesShipped_35 : decode (m_cc M_X_piecesShipped) 35 = .ok (.goto (-31), 3) := by decide +kernel
theorem fX_piecesShipped_38 : decode (m_cc M_X_piecesShipped) 38 = .ok (.iload_n 1, 1) := by decide +kernel
theorem fX_piecesShipped_39 : decode (m_cc M_X_piecesShipped) 39 = .ok (.ireturn, 1) := by decide +kernel
