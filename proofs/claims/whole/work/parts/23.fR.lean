/-! DECODED: the reference -/
theorem fR_init_0 : decode (m_cc M_R_init) 0 = .ok (.aload_n 0, 1) := by decide +kernel
theorem fR_init_1 : decode (m_cc M_R_init) 1 = .ok (.invokespecial 1, 3) := by decide +kernel
theorem fR_init_4 : decode (m_cc M_R_init) 4 = .ok (.aload_n 0, 1) := by decide +kernel
theorem fR_init_5 : decode (m_cc M_R_init) 5 = .ok (.bipush 20, 2) := by decide +kernel
theorem fR_init_7 : decode (m_cc M_R_init) 7 = .ok (.newarray .int, 2) := by decide +kernel
theorem fR_init_9 : decode (m_cc M_R_init) 9 = .ok (.putfield 7, 3) := by decide +kernel
theorem fR_init_12 : decode (m_cc M_R_init) 12 = .ok (.aload_n 0, 1) := by decide +kernel
theorem fR_init_13 : decode (m_cc M_R_init) 13 = .ok (.bipush 20, 2) := by decide +kernel
theorem fR_init_15 : decode (m_cc M_R_init) 15 = .ok (.newarray .int, 2) := by decide +kernel
theorem fR_init_17 : decode (m_cc M_R_init) 17 = .ok (.putfield 13, 3) := by decide +kernel
theorem fR_init_20 : decode (m_cc M_R_init) 20 = .ok (.aload_n 0, 1) := by decide +kernel
theorem fR_init_21 : decode (m_cc M_R_init) 21 = .ok (.bipush 20, 2) := by decide +kernel
theorem fR_init_23 : decode (m_cc M_R_init) 23 = .ok (.newarray .int, 2) := by decide +kernel
theorem fR_init_25 : decode (m_cc M_R_init) 25 = .ok (.putfield 16, 3) := by decide +kernel
theorem fR_init_28 : decode (m_cc M_R_init) 28 = .ok (.aload_n 0, 1) := by decide +kernel
theorem fR_init_29 : decode (m_cc M_R_init) 29 = .ok (.bipush 20, 2) := by decide +kernel
theorem fR_init_31 : decode (m_cc M_R_init) 31 = .ok (.newarray .int, 2) := by decide +kernel
theorem fR_init_33 : decode (m_cc M_R_init) 33 = .ok (.putfield 19, 3) := by decide +kernel
theorem fR_init_36 : decode (m_cc M_R_init) 36 = .ok (.aload_n 0, 1) := by decide +kernel
theorem fR_init_37 : decode (m_cc M_R_init) 37 = .ok (.bipush 20, 2) := by decide +kernel
theorem fR_init_39 : decode (m_cc M_R_init) 39 = .ok (.newarray .int, 2) := by decide +kernel
theorem fR_init_41 : decode (m_cc M_R_init) 41 = .ok (.putfield 22, 3) := by decide +kernel
theorem fR_init_44 : decode (m_cc M_R_init) 44 = .ok (.aload_n 0, 1) := by decide +kernel
theorem fR_init_45 : decode (m_cc M_R_init) 45 = .ok (.bipush 20, 2) := by decide +kernel
theorem fR_init_47 : decode (m_cc M_R_init) 47 = .ok (.newarray .int, 2) := by decide +kernel
theorem fR_init_49 : decode (m_cc M_R_init) 49 = .ok (.putfield 25, 3) := by decide +kernel
theorem fR_init_52 : decode (m_cc M_R_init) 52 = .ok (.aload_n 0, 1) := by decide +kernel
theorem fR_init_53 : decode (m_cc M_R_init) 53 = .ok (.bipush 20, 2) := by decide +kernel
theorem fR_init_55 : decode (m_cc M_R_init) 55 = .ok (.newarray .int, 2) := by decide +kernel
theorem fR_init_57 : decode (m_cc M_R_init) 57 = .ok (.putfield 28, 3) := by decide +kernel
theorem fR_init_60 : decode (m_cc M_R_init) 60 = .ok (.aload_n 0, 1) := by decide +kernel
theorem fR_init_61 : decode (m_cc M_R_init) 61 = .ok (.bipush 20, 2) := by decide +kernel
theorem fR_init_63 : decode (m_cc M_R_init) 63 = .ok (.newarray .int, 2) := by decide +kernel
theorem fR_init_65 : decode (m_cc M_R_init) 65 = .ok (.putfield 31, 3) := by decide +kernel
theorem fR_init_68 : decode (m_cc M_R_init) 68 = .ok (.aload_n 0, 1) := by decide +kernel
theorem fR_init_69 : decode (m_cc M_R_init) 69 = .ok (.bipush 20, 2) := by decide +kernel
theorem fR_init_71 : decode (m_cc M_R_init) 71 = .ok (.newarray .int, 2) := by decide +kernel
theorem fR_init_73 : decode (m_cc M_R_init) 73 = .ok (.putfield 34, 3) := by decide +kernel
theorem fR_init_76 : decode (m_cc M_R_init) 76 = .ok (.aload_n 0, 1) := by decide +kernel
theorem fR_init_77 : decode (m_cc M_R_init) 77 = .ok (.sipush 160, 3) := by decide +kernel
theorem fR_init_80 : decode (m_cc M_R_init) 80 = .ok (.newarray .int, 2) := by decide +kernel
theorem fR_init_82 : decode (m_cc M_R_init) 82 = .ok (.putfield 37, 3) := by decide +kernel
theorem fR_init_85 : decode (m_cc M_R_init) 85 = .ok (.aload_n 0, 1) := by decide +kernel
theorem fR_init_86 : decode (m_cc M_R_init) 86 = .ok (.bipush 60, 2) := by decide +kernel
theorem fR_init_88 : decode (m_cc M_R_init) 88 = .ok (.newarray .int, 2) := by decide +kernel
theorem fR_init_90 : decode (m_cc M_R_init) 90 = .ok (.putfield 40, 3) := by decide +kernel
theorem fR_init_93 : decode (m_cc M_R_init) 93 = .ok (.aload_n 0, 1) := by decide +kernel
theorem fR_init_94 : decode (m_cc M_R_init) 94 = .ok (.bipush 60, 2) := by decide +kernel
theorem fR_init_96 : decode (m_cc M_R_init) 96 = .ok (.newarray .int, 2) := by decide +kernel
theorem fR_init_98 : decode (m_cc M_R_init) 98 = .ok (.putfield 43, 3) := by decide +kernel
theorem fR_init_101 : decode (m_cc M_R_init) 101 = .ok (.aload_n 0, 1) := by decide +kernel
theorem fR_init_102 : decode (m_cc M_R_init) 102 = .ok (.bipush 60, 2) := by decide +kernel
theorem fR_init_104 : decode (m_cc M_R_init) 104 = .ok (.newarray .int, 2) := by decide +kernel
theorem fR_init_106 : decode (m_cc M_R_init) 106 = .ok (.putfield 46, 3) := by decide +kernel
theorem fR_init_109 : decode (m_cc M_R_init) 109 = .ok (.aload_n 0, 1) := by decide +kernel
theorem fR_init_110 : decode (m_cc M_R_init) 110 = .ok (.bipush 60, 2) := by decide +kernel
theorem fR_init_112 : decode (m_cc M_R_init) 112 = .ok (.newarray .int, 2) := by decide +kernel
theorem fR_init_114 : decode (m_cc M_R_init) 114 = .ok (.putfield 49, 3) := by decide +kernel
theorem fR_init_117 : decode (m_cc M_R_init) 117 = .ok (.aload_n 0, 1) := by decide +kernel
theorem fR_init_118 : decode (m_cc M_R_init) 118 = .ok (.bipush 60, 2) := by decide +kernel
theorem fR_init_120 : decode (m_cc M_R_init) 120 = .ok (.newarray .int, 2) := by decide +kernel
theorem fR_init_122 : decode (m_cc M_R_init) 122 = .ok (.putfield 52, 3) := by decide +kernel
theorem fR_init_125 : decode (m_cc M_R_init) 125 = .ok (.aload_n 0, 1) := by decide +kernel
theorem fR_init_126 : decode (m_cc M_R_init) 126 = .ok (.bipush 60, 2) := by decide +kernel
theorem fR_init_128 : decode (m_cc M_R_init) 128 = .ok (.newarray .int, 2) := by decide +kernel
theorem fR_init_130 : decode (m_cc M_R_init) 130 = .ok (.putfield 55, 3) := by decide +kernel
theorem fR_init_133 : decode (m_cc M_R_init) 133 = .ok (.aload_n 0, 1) := by decide +kernel
theorem fR_init_134 : decode (m_cc M_R_init) 134 = .ok (.bipush 60, 2) := by decide +kernel
theorem fR_init_136 : decode (m_cc M_R_init) 136 = .ok (.newarray .int, 2) := by decide +kernel
theorem fR_init_138 : decode (m_cc M_R_init) 138 = .ok (.putfield 58, 3) := by decide +kernel
theorem fR_init_141 : decode (m_cc M_R_init) 141 = .ok (.aload_n 0, 1) := by decide +kernel
theorem fR_init_142 : decode (m_cc M_R_init) 142 = .ok (.bipush 60, 2) := by decide +kernel
theorem fR_init_144 : decode (m_cc M_R_init) 144 = .ok (.newarray .int, 2) := by decide +kernel
theorem fR_init_146 : decode (m_cc M_R_init) 146 = .ok (.putfield 61, 3) := by decide +kernel
theorem fR_init_149 : decode (m_cc M_R_init) 149 = .ok (.aload_n 0, 1) := by decide +kernel
theorem fR_init_150 : decode (m_cc M_R_init) 150 = .ok (.bipush 60, 2) := by decide +kernel
theorem fR_init_152 : decode (m_cc M_R_init) 152 = .ok (.newarray .boolean, 2) := by decide +kernel
theorem fR_init_154 : decode (m_cc M_R_init) 154 = .ok (.putfield 64, 3) := by decide +kernel
theorem fR_init_157 : decode (m_cc M_R_init) 157 = .ok (.aload_n 0, 1) := by decide +kernel
theorem fR_init_158 : decode (m_cc M_R_init) 158 = .ok (.bipush 60, 2) := by decide +kernel
theorem fR_init_160 : decode (m_cc M_R_init) 160 = .ok (.newarray .boolean, 2) := by decide +kernel
theorem fR_init_162 : decode (m_cc M_R_init) 162 = .ok (.putfield 68, 3) := by decide +kernel
theorem fR_init_165 : decode (m_cc M_R_init) 165 = .ok (.return_, 1) := by decide +kernel
theorem fR_thrown_0 : decode (m_cc M_R_thrown) 0 = .ok (.aload_n 0, 1) := by decide +kernel
theorem fR_thrown_1 : decode (m_cc M_R_thrown) 1 = .ok (.getfield 71, 3) := by decide +kernel
theorem fR_thrown_4 : decode (m_cc M_R_thrown) 4 = .ok (.ireturn, 1) := by decide +kernel
theorem fR_in_0 : decode (m_cc M_R_in) 0 = .ok (.iload_n 0, 1) := by decide +kernel
theorem fR_in_1 : decode (m_cc M_R_in) 1 = .ok (.iload_n 1, 1) := by decide +kernel
theorem fR_in_2 : decode (m_cc M_R_in) 2 = .ok (.if_icmp .lt 12, 3) := by decide +kernel
theorem fR_in_5 : decode (m_cc M_R_in) 5 = .ok (.iload_n 0, 1) := by decide +kernel
theorem fR_in_6 : decode (m_cc M_R_in) 6 = .ok (.iload_n 2, 1) := by decide +kernel
theorem fR_in_7 : decode (m_cc M_R_in) 7 = .ok (.if_icmp .gt 7, 3) := by decide +kernel
theorem fR_in_10 : decode (m_cc M_R_in) 10 = .ok (.iconst 1, 1) := by decide +kernel
theorem fR_in_11 : decode (m_cc M_R_in) 11 = .ok (.goto 4, 3) := by decide +kernel
theorem fR_in_14 : decode (m_cc M_R_in) 14 = .ok (.iconst 0, 1) := by decide +kernel
theorem fR_in_15 : decode (m_cc M_R_in) 15 = .ok (.ireturn, 1) := by decide +kernel
theorem fR_isOrder_0 : decode (m_cc M_R_isOrder) 0 = .ok (.iload_n 1, 1) := by decide +kernel
theorem fR_isOrder_1 : decode (m_cc M_R_isOrder) 1 = .ok (.iconst 0, 1) := by decide +kernel
theorem fR_isOrder_2 : decode (m_cc M_R_isOrder) 2 = .ok (.aload_n 0, 1) := by decide +kernel
theorem fR_isOrder_3 : decode (m_cc M_R_isOrder) 3 = .ok (.getfield 75, 3) := by decide +kernel
theorem fR_isOrder_6 : decode (m_cc M_R_isOrder) 6 = .ok (.iconst 1, 1) := by decide +kernel
theorem fR_isOrder_7 : decode (m_cc M_R_isOrder) 7 = .ok (.isub, 1) := by decide +kernel
theorem fR_isOrder_8 : decode (m_cc M_R_isOrder) 8 = .ok (.invokestatic 78, 3) := by decide +kernel
theorem fR_isOrder_11 : decode (m_cc M_R_isOrder) 11 = .ok (.ireturn, 1) := by decide +kernel
theorem fR_isLine_0 : decode (m_cc M_R_isLine) 0 = .ok (.iload_n 1, 1) := by decide +kernel
theorem fR_isLine_1 : decode (m_cc M_R_isLine) 1 = .ok (.iconst 0, 1) := by decide +kernel
theorem fR_isLine_2 : decode (m_cc M_R_isLine) 2 = .ok (.aload_n 0, 1) := by decide +kernel
theorem fR_isLine_3 : decode (m_cc M_R_isLine) 3 = .ok (.getfield 82, 3) := by decide +kernel
theorem fR_isLine_6 : decode (m_cc M_R_isLine) 6 = .ok (.iconst 1, 1) := by decide +kernel
theorem fR_isLine_7 : decode (m_cc M_R_isLine) 7 = .ok (.isub, 1) := by decide +kernel
theorem fR_isLine_8 : decode (m_cc M_R_isLine) 8 = .ok (.invokestatic 78, 3) := by decide +kernel
theorem fR_isLine_11 : decode (m_cc M_R_isLine) 11 = .ok (.ireturn, 1) := by decide +kernel
theorem fR_has_0 : decode (m_cc M_R_has) 0 = .ok (.aload_n 0, 1) := by decide +kernel
theorem fR_has_1 : decode (m_cc M_R_has) 1 = .ok (.getfield 49, 3) := by decide +kernel
theorem fR_has_4 : decode (m_cc M_R_has) 4 = .ok (.iload_n 1, 1) := by decide +kernel
theorem fR_has_5 : decode (m_cc M_R_has) 5 = .ok (.iaload, 1) := by decide +kernel
theorem fR_has_6 : decode (m_cc M_R_has) 6 = .ok (.iload_n 2, 1) := by decide +kernel
theorem fR_has_7 : decode (m_cc M_R_has) 7 = .ok (.iand, 1) := by decide +kernel
theorem fR_has_8 : decode (m_cc M_R_has) 8 = .ok (.ifCond .eq 7, 3) := by decide +kernel
theorem fR_has_11 : decode (m_cc M_R_has) 11 = .ok (.iconst 1, 1) := by decide +kernel
theorem fR_has_12 : decode (m_cc M_R_has) 12 = .ok (.goto 4, 3) := by decide +kernel
theorem fR_has_15 : decode (m_cc M_R_has) 15 = .ok (.iconst 0, 1) := by decide +kernel
theorem fR_has_16 : decode (m_cc M_R_has) 16 = .ok (.ireturn, 1) := by decide +kernel
theorem fR_newOrder_0 : decode (m_cc M_R_newOrder) 0 = .ok (.aload_n 0, 1) := by decide +kernel
theorem fR_newOrder_1 : decode (m_cc M_R_newOrder) 1 = .ok (.getfield 7, 3) := by decide +kernel
theorem fR_newOrder_4 : decode (m_cc M_R_newOrder) 4 = .ok (.aload_n 0, 1) := by decide +kernel
theorem fR_newOrder_5 : decode (m_cc M_R_newOrder) 5 = .ok (.getfield 75, 3) := by decide +kernel
theorem fR_newOrder_8 : decode (m_cc M_R_newOrder) 8 = .ok (.iload_n 1, 1) := by decide +kernel
theorem fR_newOrder_9 : decode (m_cc M_R_newOrder) 9 = .ok (.iastore, 1) := by decide +kernel
theorem fR_newOrder_10 : decode (m_cc M_R_newOrder) 10 = .ok (.aload_n 0, 1) := by decide +kernel
theorem fR_newOrder_11 : decode (m_cc M_R_newOrder) 11 = .ok (.getfield 13, 3) := by decide +kernel
theorem fR_newOrder_14 : decode (m_cc M_R_newOrder) 14 = .ok (.aload_n 0, 1) := by decide +kernel
theorem fR_newOrder_15 : decode (m_cc M_R_newOrder) 15 = .ok (.getfield 75, 3) := by decide +kernel
theorem fR_newOrder_18 : decode (m_cc M_R_newOrder) 18 = .ok (.iload_n 2, 1) := by decide +kernel
theorem fR_newOrder_19 : decode (m_cc M_R_newOrder) 19 = .ok (.iastore, 1) := by decide +kernel
theorem fR_newOrder_20 : decode (m_cc M_R_newOrder) 20 = .ok (.aload_n 0, 1) := by decide +kernel
theorem fR_newOrder_21 : decode (m_cc M_R_newOrder) 21 = .ok (.getfield 16, 3) := by decide +kernel
theorem fR_newOrder_24 : decode (m_cc M_R_newOrder) 24 = .ok (.aload_n 0, 1) := by decide +kernel
theorem fR_newOrder_25 : decode (m_cc M_R_newOrder) 25 = .ok (.getfield 75, 3) := by decide +kernel
theorem fR_newOrder_28 : decode (m_cc M_R_newOrder) 28 = .ok (.iload_n 3, 1) := by decide +kernel
theorem fR_newOrder_29 : decode (m_cc M_R_newOrder) 29 = .ok (.iastore, 1) := by decide +kernel
theorem fR_newOrder_30 : decode (m_cc M_R_newOrder) 30 = .ok (.aload_n 0, 1) := by decide +kernel
theorem fR_newOrder_31 : decode (m_cc M_R_newOrder) 31 = .ok (.getfield 19, 3) := by decide +kernel
theorem fR_newOrder_34 : decode (m_cc M_R_newOrder) 34 = .ok (.aload_n 0, 1) := by decide +kernel
theorem fR_newOrder_35 : decode (m_cc M_R_newOrder) 35 = .ok (.getfield 75, 3) := by decide +kernel
theorem fR_newOrder_38 : decode (m_cc M_R_newOrder) 38 = .ok (.iload 4, 2) := by decide +kernel
theorem fR_newOrder_40 : decode (m_cc M_R_newOrder) 40 = .ok (.iastore, 1) := by decide +kernel
theorem fR_newOrder_41 : decode (m_cc M_R_newOrder) 41 = .ok (.aload_n 0, 1) := by decide +kernel
theorem fR_newOrder_42 : decode (m_cc M_R_newOrder) 42 = .ok (.getfield 22, 3) := by decide +kernel
theorem fR_newOrder_45 : decode (m_cc M_R_newOrder) 45 = .ok (.aload_n 0, 1) := by decide +kernel
theorem fR_newOrder_46 : decode (m_cc M_R_newOrder) 46 = .ok (.getfield 75, 3) := by decide +kernel
theorem fR_newOrder_49 : decode (m_cc M_R_newOrder) 49 = .ok (.iconst 0, 1) := by decide +kernel
theorem fR_newOrder_50 : decode (m_cc M_R_newOrder) 50 = .ok (.iastore, 1) := by decide +kernel
theorem fR_newOrder_51 : decode (m_cc M_R_newOrder) 51 = .ok (.aload_n 0, 1) := by decide +kernel
theorem fR_newOrder_52 : decode (m_cc M_R_newOrder) 52 = .ok (.getfield 28, 3) := by decide +kernel
theorem fR_newOrder_55 : decode (m_cc M_R_newOrder) 55 = .ok (.aload_n 0, 1) := by decide +kernel
theorem fR_newOrder_56 : decode (m_cc M_R_newOrder) 56 = .ok (.getfield 75, 3) := by decide +kernel
theorem fR_newOrder_59 : decode (m_cc M_R_newOrder) 59 = .ok (.iconst 1, 1) := by decide +kernel
theorem fR_newOrder_60 : decode (m_cc M_R_newOrder) 60 = .ok (.iastore, 1) := by decide +kernel
theorem fR_newOrder_61 : decode (m_cc M_R_newOrder) 61 = .ok (.aload_n 0, 1) := by decide +kernel
theorem fR_newOrder_62 : decode (m_cc M_R_newOrder) 62 = .ok (.getfield 31, 3) := by decide +kernel
theorem fR_newOrder_65 : decode (m_cc M_R_newOrder) 65 = .ok (.aload_n 0, 1) := by decide +kernel
theorem fR_newOrder_66 : decode (m_cc M_R_newOrder) 66 = .ok (.getfield 75, 3) := by decide +kernel
theorem fR_newOrder_69 : decode (m_cc M_R_newOrder) 69 = .ok (.iconst (-1), 1) := by decide +kernel
theorem fR_newOrder_70 : decode (m_cc M_R_newOrder) 70 = .ok (.iastore, 1) := by decide +kernel
theorem fR_newOrder_71 : decode (m_cc M_R_newOrder) 71 = .ok (.aload_n 0, 1) := by decide +kernel
theorem fR_newOrder_72 : decode (m_cc M_R_newOrder) 72 = .ok (.dup, 1) := by decide +kernel
theorem fR_newOrder_73 : decode (m_cc M_R_newOrder) 73 = .ok (.getfield 75, 3) := by decide +kernel
theorem fR_newOrder_76 : decode (m_cc M_R_newOrder) 76 = .ok (.iconst 1, 1) := by decide +kernel
theorem fR_newOrder_77 : decode (m_cc M_R_newOrder) 77 = .ok (.iadd, 1) := by decide +kernel
theorem fR_newOrder_78 : decode (m_cc M_R_newOrder) 78 = .ok (.putfield 75, 3) := by decide +kernel
theorem fR_newOrder_81 : decode (m_cc M_R_newOrder) 81 = .ok (.aload_n 0, 1) := by decide +kernel
theorem fR_newOrder_82 : decode (m_cc M_R_newOrder) 82 = .ok (.getfield 75, 3) := by decide +kernel
theorem fR_newOrder_85 : decode (m_cc M_R_newOrder) 85 = .ok (.iconst 1, 1) := by decide +kernel
theorem fR_newOrder_86 : decode (m_cc M_R_newOrder) 86 = .ok (.isub, 1) := by decide +kernel
theorem fR_newOrder_87 : decode (m_cc M_R_newOrder) 87 = .ok (.ireturn, 1) := by decide +kernel
theorem fR_order_0 : decode (m_cc M_R_order) 0 = .ok (.aload_n 0, 1) := by decide +kernel
theorem fR_order_1 : decode (m_cc M_R_order) 1 = .ok (.iload_n 1, 1) := by decide +kernel
theorem fR_order_2 : decode (m_cc M_R_order) 2 = .ok (.iconst 0, 1) := by decide +kernel
theorem fR_order_3 : decode (m_cc M_R_order) 3 = .ok (.bipush 7, 2) := by decide +kernel
theorem fR_order_5 : decode (m_cc M_R_order) 5 = .ok (.invokestatic 78, 3) := by decide +kernel
theorem fR_order_8 : decode (m_cc M_R_order) 8 = .ok (.ifCond .eq 39, 3) := by decide +kernel
theorem fR_order_11 : decode (m_cc M_R_order) 11 = .ok (.iload_n 2, 1) := by decide +kernel
theorem fR_order_12 : decode (m_cc M_R_order) 12 = .ok (.iconst 1, 1) := by decide +kernel
theorem fR_order_13 : decode (m_cc M_R_order) 13 = .ok (.ldc 85, 2) := by decide +kernel
theorem fR_order_15 : decode (m_cc M_R_order) 15 = .ok (.invokestatic 78, 3) := by decide +kernel
theorem fR_order_18 : decode (m_cc M_R_order) 18 = .ok (.ifCond .eq 29, 3) := by decide +kernel
theorem fR_order_21 : decode (m_cc M_R_order) 21 = .ok (.iload_n 3, 1) := by decide +kernel
theorem fR_order_22 : decode (m_cc M_R_order) 22 = .ok (.iconst 1, 1) := by decide +kernel
theorem fR_order_23 : decode (m_cc M_R_order) 23 = .ok (.bipush 9, 2) := by decide +kernel
theorem fR_order_25 : decode (m_cc M_R_order) 25 = .ok (.invokestatic 78, 3) := by decide +kernel
theorem fR_order_28 : decode (m_cc M_R_order) 28 = .ok (.ifCond .eq 19, 3) := by decide +kernel
theorem fR_order_31 : decode (m_cc M_R_order) 31 = .ok (.iload 4, 2) := by decide +kernel
theorem fR_order_33 : decode (m_cc M_R_order) 33 = .ok (.iconst 0, 1) := by decide +kernel
theorem fR_order_34 : decode (m_cc M_R_order) 34 = .ok (.sipush 10000, 3) := by decide +kernel
theorem fR_order_37 : decode (m_cc M_R_order) 37 = .ok (.invokestatic 78, 3) := by decide +kernel
theorem fR_order_40 : decode (m_cc M_R_order) 40 = .ok (.ifCond .eq 7, 3) := by decide +kernel
theorem fR_order_43 : decode (m_cc M_R_order) 43 = .ok (.iconst 0, 1) := by decide +kernel
theorem fR_order_44 : decode (m_cc M_R_order) 44 = .ok (.goto 4, 3) := by decide +kernel
theorem fR_order_47 : decode (m_cc M_R_order) 47 = .ok (.iconst 1, 1) := by decide +kernel
theorem fR_order_48 : decode (m_cc M_R_order) 48 = .ok (.putfield 71, 3) := by decide +kernel
theorem fR_order_51 : decode (m_cc M_R_order) 51 = .ok (.aload_n 0, 1) := by decide +kernel
theorem fR_order_52 : decode (m_cc M_R_order) 52 = .ok (.getfield 71, 3) := by decide +kernel
theorem fR_order_55 : decode (m_cc M_R_order) 55 = .ok (.ifCond .le 5, 3) := by decide +kernel
theorem fR_order_58 : decode (m_cc M_R_order) 58 = .ok (.iconst 0, 1) := by decide +kernel
theorem fR_order_59 : decode (m_cc M_R_order) 59 = .ok (.ireturn, 1) := by decide +kernel
theorem fR_order_60 : decode (m_cc M_R_order) 60 = .ok (.iconst 0, 1) := by decide +kernel
theorem fR_order_61 : decode (m_cc M_R_order) 61 = .ok (.istore 5, 2) := by decide +kernel
theorem fR_order_63 : decode (m_cc M_R_order) 63 = .ok (.iload 5, 2) := by decide +kernel
theorem fR_order_65 : decode (m_cc M_R_order) 65 = .ok (.aload_n 0, 1) := by decide +kernel
theorem fR_order_66 : decode (m_cc M_R_order) 66 = .ok (.getfield 75, 3) := by decide +kernel
theorem fR_order_69 : decode (m_cc M_R_order) 69 = .ok (.if_icmp .ge 36, 3) := by decide +kernel
theorem fR_order_72 : decode (m_cc M_R_order) 72 = .ok (.aload_n 0, 1) := by decide +kernel
theorem fR_order_73 : decode (m_cc M_R_order) 73 = .ok (.getfield 7, 3) := by decide +kernel
theorem fR_order_76 : decode (m_cc M_R_order) 76 = .ok (.iload 5, 2) := by decide +kernel
theorem fR_order_78 : decode (m_cc M_R_order) 78 = .ok (.iaload, 1) := by decide +kernel
theorem fR_order_79 : decode (m_cc M_R_order) 79 = .ok (.iload_n 1, 1) := by decide +kernel
theorem fR_order_80 : decode (m_cc M_R_order) 80 = .ok (.if_icmp .ne 19, 3) := by decide +kernel
theorem fR_order_83 : decode (m_cc M_R_order) 83 = .ok (.aload_n 0, 1) := by decide +kernel
theorem fR_order_84 : decode (m_cc M_R_order) 84 = .ok (.getfield 13, 3) := by decide +kernel
theorem fR_order_87 : decode (m_cc M_R_order) 87 = .ok (.iload 5, 2) := by decide +kernel
theorem fR_order_89 : decode (m_cc M_R_order) 89 = .ok (.iaload, 1) := by decide +kernel
theorem fR_order_90 : decode (m_cc M_R_order) 90 = .ok (.iload_n 2, 1) := by decide +kernel
theorem fR_order_91 : decode (m_cc M_R_order) 91 = .ok (.if_icmp .ne 8, 3) := by decide +kernel
theorem fR_order_94 : decode (m_cc M_R_order) 94 = .ok (.iconst (-1), 1) := by decide +kernel
theorem fR_order_95 : decode (m_cc M_R_order) 95 = .ok (.iload 5, 2) := by decide +kernel
theorem fR_order_97 : decode (m_cc M_R_order) 97 = .ok (.isub, 1) := by decide +kernel
theorem fR_order_98 : decode (m_cc M_R_order) 98 = .ok (.ireturn, 1) := by decide +kernel
theorem fR_order_99 : decode (m_cc M_R_order) 99 = .ok (.iinc 5 1, 3) := by decide +kernel
theorem fR_order_102 : decode (m_cc M_R_order) 102 = .ok (.goto (-39), 3) := by decide +kernel
theorem fR_order_105 : decode (m_cc M_R_order) 105 = .ok (.aload_n 0, 1) := by decide +kernel
theorem fR_order_106 : decode (m_cc M_R_order) 106 = .ok (.aload_n 0, 1) := by decide +kernel
theorem fR_order_107 : decode (m_cc M_R_order) 107 = .ok (.getfield 75, 3) := by decide +kernel
theorem fR_order_110 : decode (m_cc M_R_order) 110 = .ok (.bipush 20, 2) := by decide +kernel
theorem fR_order_112 : decode (m_cc M_R_order) 112 = .ok (.if_icmp .ne 7, 3) := by decide +kernel
theorem fR_order_115 : decode (m_cc M_R_order) 115 = .ok (.iconst 2, 1) := by decide +kernel
theorem fR_order_116 : decode (m_cc M_R_order) 116 = .ok (.goto 4, 3) := by decide +kernel
theorem fR_order_119 : decode (m_cc M_R_order) 119 = .ok (.iconst 0, 1) := by decide +kernel
theorem fR_order_120 : decode (m_cc M_R_order) 120 = .ok (.putfield 71, 3) := by decide +kernel
theorem fR_order_123 : decode (m_cc M_R_order) 123 = .ok (.aload_n 0, 1) := by decide +kernel
theorem fR_order_124 : decode (m_cc M_R_order) 124 = .ok (.getfield 71, 3) := by decide +kernel
theorem fR_order_127 : decode (m_cc M_R_order) 127 = .ok (.ifCond .le 7, 3) := by decide +kernel
theorem fR_order_130 : decode (m_cc M_R_order) 130 = .ok (.iconst 0, 1) := by decide +kernel
theorem fR_order_131 : decode (m_cc M_R_order) 131 = .ok (.goto 12, 3) := by decide +kernel
theorem fR_order_134 : decode (m_cc M_R_order) 134 = .ok (.aload_n 0, 1) := by decide +kernel
theorem fR_order_135 : decode (m_cc M_R_order) 135 = .ok (.iload_n 1, 1) := by decide +kernel
theorem fR_order_136 : decode (m_cc M_R_order) 136 = .ok (.iload_n 2, 1) := by decide +kernel
theorem fR_order_137 : decode (m_cc M_R_order) 137 = .ok (.iload_n 3, 1) := by decide +kernel
theorem fR_order_138 : decode (m_cc M_R_order) 138 = .ok (.iload 4, 2) := by decide +kernel
theorem fR_order_140 : decode (m_cc M_R_order) 140 = .ok (.invokevirtual 86, 3) := by decide +kernel
theorem fR_order_143 : decode (m_cc M_R_order) 143 = .ok (.ireturn, 1) := by decide +kernel
theorem fR_hang_0 : decode (m_cc M_R_hang) 0 = .ok (.aload_n 0, 1) := by decide +kernel
theorem fR_hang_1 : decode (m_cc M_R_hang) 1 = .ok (.getfield 37, 3) := by decide +kernel
theorem fR_hang_4 : decode (m_cc M_R_hang) 4 = .ok (.bipush 8, 2) := by decide +kernel
theorem fR_hang_6 : decode (m_cc M_R_hang) 6 = .ok (.iload_n 1, 1) := by decide +kernel
theorem fR_hang_7 : decode (m_cc M_R_hang) 7 = .ok (.imul, 1) := by decide +kernel
theorem fR_hang_8 : decode (m_cc M_R_hang) 8 = .ok (.aload_n 0, 1) := by decide +kernel
theorem fR_hang_9 : decode (m_cc M_R_hang) 9 = .ok (.getfield 34, 3) := by decide +kernel
theorem fR_hang_12 : decode (m_cc M_R_hang) 12 = .ok (.iload_n 1, 1) := by decide +kernel
theorem fR_hang_13 : decode (m_cc M_R_hang) 13 = .ok (.iaload, 1) := by decide +kernel
theorem fR_hang_14 : decode (m_cc M_R_hang) 14 = .ok (.iadd, 1) := by decide +kernel
theorem fR_hang_15 : decode (m_cc M_R_hang) 15 = .ok (.iload_n 2, 1) := by decide +kernel
theorem fR_hang_16 : decode (m_cc M_R_hang) 16 = .ok (.iastore, 1) := by decide +kernel
theorem fR_hang_17 : decode (m_cc M_R_hang) 17 = .ok (.aload_n 0, 1) := by decide +kernel
theorem fR_hang_18 : decode (m_cc M_R_hang) 18 = .ok (.getfield 34, 3) := by decide +kernel
theorem fR_hang_21 : decode (m_cc M_R_hang) 21 = .ok (.iload_n 1, 1) := by decide +kernel
theorem fR_hang_22 : decode (m_cc M_R_hang) 22 = .ok (.dup2, 1) := by decide +kernel
theorem fR_hang_23 : decode (m_cc M_R_hang) 23 = .ok (.iaload, 1) := by decide +kernel
theorem fR_hang_24 : decode (m_cc M_R_hang) 24 = .ok (.iconst 1, 1) := by decide +kernel
theorem fR_hang_25 : decode (m_cc M_R_hang) 25 = .ok (.iadd, 1) := by decide +kernel
theorem fR_hang_26 : decode (m_cc M_R_hang) 26 = .ok (.iastore, 1) := by decide +kernel
theorem fR_hang_27 : decode (m_cc M_R_hang) 27 = .ok (.aload_n 0, 1) := by decide +kernel
theorem fR_hang_28 : decode (m_cc M_R_hang) 28 = .ok (.getfield 40, 3) := by decide +kernel
theorem fR_hang_31 : decode (m_cc M_R_hang) 31 = .ok (.iload_n 2, 1) := by decide +kernel
theorem fR_hang_32 : decode (m_cc M_R_hang) 32 = .ok (.iload_n 1, 1) := by decide +kernel
theorem fR_hang_33 : decode (m_cc M_R_hang) 33 = .ok (.iastore, 1) := by decide +kernel
theorem fR_hang_34 : decode (m_cc M_R_hang) 34 = .ok (.return_, 1) := by decide +kernel
theorem fR_newLine_0 : decode (m_cc M_R_newLine) 0 = .ok (.aload_n 0, 1) := by decide +kernel
theorem fR_newLine_1 : decode (m_cc M_R_newLine) 1 = .ok (.getfield 43, 3) := by decide +kernel
theorem fR_newLine_4 : decode (m_cc M_R_newLine) 4 = .ok (.aload_n 0, 1) := by decide +kernel
theorem fR_newLine_5 : decode (m_cc M_R_newLine) 5 = .ok (.getfield 82, 3) := by decide +kernel
theorem fR_newLine_8 : decode (m_cc M_R_newLine) 8 = .ok (.iload_n 2, 1) := by decide +kernel
theorem fR_newLine_9 : decode (m_cc M_R_newLine) 9 = .ok (.iastore, 1) := by decide +kernel
theorem fR_newLine_10 : decode (m_cc M_R_newLine) 10 = .ok (.aload_n 0, 1) := by decide +kernel
theorem fR_newLine_11 : decode (m_cc M_R_newLine) 11 = .ok (.getfield 46, 3) := by decide +kernel
theorem fR_newLine_14 : decode (m_cc M_R_newLine) 14 = .ok (.aload_n 0, 1) := by decide +kernel
theorem fR_newLine_15 : decode (m_cc M_R_newLine) 15 = .ok (.getfield 82, 3) := by decide +kernel
theorem fR_newLine_18 : decode (m_cc M_R_newLine) 18 = .ok (.iconst (-1), 1) := by decide +kernel
theorem fR_newLine_19 : decode (m_cc M_R_newLine) 19 = .ok (.iastore, 1) := by decide +kernel
theorem fR_newLine_20 : decode (m_cc M_R_newLine) 20 = .ok (.aload_n 0, 1) := by decide +kernel
theorem fR_newLine_21 : decode (m_cc M_R_newLine) 21 = .ok (.getfield 49, 3) := by decide +kernel
theorem fR_newLine_24 : decode (m_cc M_R_newLine) 24 = .ok (.aload_n 0, 1) := by decide +kernel
theorem fR_newLine_25 : decode (m_cc M_R_newLine) 25 = .ok (.getfield 82, 3) := by decide +kernel
theorem fR_newLine_28 : decode (m_cc M_R_newLine) 28 = .ok (.iload 4, 2) := by decide +kernel
theorem fR_newLine_30 : decode (m_cc M_R_newLine) 30 = .ok (.iastore, 1) := by decide +kernel
theorem fR_newLine_31 : decode (m_cc M_R_newLine) 31 = .ok (.aload_n 0, 1) := by decide +kernel
theorem fR_newLine_32 : decode (m_cc M_R_newLine) 32 = .ok (.getfield 52, 3) := by decide +kernel
theorem fR_newLine_35 : decode (m_cc M_R_newLine) 35 = .ok (.aload_n 0, 1) := by decide +kernel
theorem fR_newLine_36 : decode (m_cc M_R_newLine) 36 = .ok (.getfield 82, 3) := by decide +kernel
theorem fR_newLine_39 : decode (m_cc M_R_newLine) 39 = .ok (.iload_n 3, 1) := by decide +kernel
theorem fR_newLine_40 : decode (m_cc M_R_newLine) 40 = .ok (.iastore, 1) := by decide +kernel
theorem fR_newLine_41 : decode (m_cc M_R_newLine) 41 = .ok (.aload_n 0, 1) := by decide +kernel
theorem fR_newLine_42 : decode (m_cc M_R_newLine) 42 = .ok (.getfield 64, 3) := by decide +kernel
theorem fR_newLine_45 : decode (m_cc M_R_newLine) 45 = .ok (.aload_n 0, 1) := by decide +kernel
theorem fR_newLine_46 : decode (m_cc M_R_newLine) 46 = .ok (.getfield 82, 3) := by decide +kernel
theorem fR_newLine_49 : decode (m_cc M_R_newLine) 49 = .ok (.iconst 1, 1) := by decide +kernel
theorem fR_newLine_50 : decode (m_cc M_R_newLine) 50 = .ok (.bastore, 1) := by decide +kernel
theorem fR_newLine_51 : decode (m_cc M_R_newLine) 51 = .ok (.aload_n 0, 1) := by decide +kernel
theorem fR_newLine_52 : decode (m_cc M_R_newLine) 52 = .ok (.iload_n 1, 1) := by decide +kernel
theorem fR_newLine_53 : decode (m_cc M_R_newLine) 53 = .ok (.aload_n 0, 1) := by decide +kernel
theorem fR_newLine_54 : decode (m_cc M_R_newLine) 54 = .ok (.getfield 82, 3) := by decide +kernel
theorem fR_newLine_57 : decode (m_cc M_R_newLine) 57 = .ok (.invokevirtual 90, 3) := by decide +kernel
theorem fR_newLine_60 : decode (m_cc M_R_newLine) 60 = .ok (.aload_n 0, 1) := by decide +kernel
theorem fR_newLine_61 : decode (m_cc M_R_newLine) 61 = .ok (.getfield 28, 3) := by decide +kernel
theorem fR_newLine_64 : decode (m_cc M_R_newLine) 64 = .ok (.iload_n 1, 1) := by decide +kernel
theorem fR_newLine_65 : decode (m_cc M_R_newLine) 65 = .ok (.dup2, 1) := by decide +kernel
theorem fR_newLine_66 : decode (m_cc M_R_newLine) 66 = .ok (.iaload, 1) := by decide +kernel
theorem fR_newLine_67 : decode (m_cc M_R_newLine) 67 = .ok (.iconst 1, 1) := by decide +kernel
theorem fR_newLine_68 : decode (m_cc M_R_newLine) 68 = .ok (.iadd, 1) := by decide +kernel
theorem fR_newLine_69 : decode (m_cc M_R_newLine) 69 = .ok (.iastore, 1) := by decide +kernel
theorem fR_newLine_70 : decode (m_cc M_R_newLine) 70 = .ok (.aload_n 0, 1) := by decide +kernel
theorem fR_newLine_71 : decode (m_cc M_R_newLine) 71 = .ok (.dup, 1) := by decide +kernel
theorem fR_newLine_72 : decode (m_cc M_R_newLine) 72 = .ok (.getfield 82, 3) := by decide +kernel
theorem fR_newLine_75 : decode (m_cc M_R_newLine) 75 = .ok (.iconst 1, 1) := by decide +kernel
theorem fR_newLine_76 : decode (m_cc M_R_newLine) 76 = .ok (.iadd, 1) := by decide +kernel
theorem fR_newLine_77 : decode (m_cc M_R_newLine) 77 = .ok (.putfield 82, 3) := by decide +kernel
theorem fR_newLine_80 : decode (m_cc M_R_newLine) 80 = .ok (.aload_n 0, 1) := by decide +kernel
theorem fR_newLine_81 : decode (m_cc M_R_newLine) 81 = .ok (.getfield 82, 3) := by decide +kernel
theorem fR_newLine_84 : decode (m_cc M_R_newLine) 84 = .ok (.iconst 1, 1) := by decide +kernel
theorem fR_newLine_85 : decode (m_cc M_R_newLine) 85 = .ok (.isub, 1) := by decide +kernel
theorem fR_newLine_86 : decode (m_cc M_R_newLine) 86 = .ok (.ireturn, 1) := by decide +kernel
theorem fR_line_0 : decode (m_cc M_R_line) 0 = .ok (.aload_n 0, 1) := by decide +kernel
theorem fR_line_1 : decode (m_cc M_R_line) 1 = .ok (.aload_n 0, 1) := by decide +kernel
theorem fR_line_2 : decode (m_cc M_R_line) 2 = .ok (.iload_n 1, 1) := by decide +kernel
theorem fR_line_3 : decode (m_cc M_R_line) 3 = .ok (.invokevirtual 94, 3) := by decide +kernel
theorem fR_line_6 : decode (m_cc M_R_line) 6 = .ok (.ifCond .ne 7, 3) := by decide +kernel
theorem fR_line_9 : decode (m_cc M_R_line) 9 = .ok (.iconst 1, 1) := by decide +kernel
theorem fR_line_10 : decode (m_cc M_R_line) 10 = .ok (.goto 40, 3) := by decide +kernel
theorem fR_line_13 : decode (m_cc M_R_line) 13 = .ok (.iload_n 2, 1) := by decide +kernel
theorem fR_line_14 : decode (m_cc M_R_line) 14 = .ok (.iconst 0, 1) := by decide +kernel
theorem fR_line_15 : decode (m_cc M_R_line) 15 = .ok (.bipush 15, 2) := by decide +kernel
theorem fR_line_17 : decode (m_cc M_R_line) 17 = .ok (.invokestatic 78, 3) := by decide +kernel
theorem fR_line_20 : decode (m_cc M_R_line) 20 = .ok (.ifCond .eq 25, 3) := by decide +kernel
theorem fR_line_23 : decode (m_cc M_R_line) 23 = .ok (.iload_n 3, 1) := by decide +kernel
theorem fR_line_24 : decode (m_cc M_R_line) 24 = .ok (.iconst 1, 1) := by decide +kernel
theorem fR_line_25 : decode (m_cc M_R_line) 25 = .ok (.sipush 1000, 3) := by decide +kernel
theorem fR_line_28 : decode (m_cc M_R_line) 28 = .ok (.invokestatic 78, 3) := by decide +kernel
theorem fR_line_31 : decode (m_cc M_R_line) 31 = .ok (.ifCond .eq 14, 3) := by decide +kernel
theorem fR_line_34 : decode (m_cc M_R_line) 34 = .ok (.iload 4, 2) := by decide +kernel
theorem fR_line_36 : decode (m_cc M_R_line) 36 = .ok (.iconst 0, 1) := by decide +kernel
theorem fR_line_37 : decode (m_cc M_R_line) 37 = .ok (.bipush 7, 2) := by decide +kernel
theorem fR_line_39 : decode (m_cc M_R_line) 39 = .ok (.invokestatic 78, 3) := by decide +kernel
theorem fR_line_42 : decode (m_cc M_R_line) 42 = .ok (.ifCond .ne 7, 3) := by decide +kernel
theorem fR_line_45 : decode (m_cc M_R_line) 45 = .ok (.iconst 2, 1) := by decide +kernel
theorem fR_line_46 : decode (m_cc M_R_line) 46 = .ok (.goto 4, 3) := by decide +kernel
theorem fR_line_49 : decode (m_cc M_R_line) 49 = .ok (.iconst 0, 1) := by decide +kernel
theorem fR_line_50 : decode (m_cc M_R_line) 50 = .ok (.putfield 71, 3) := by decide +kernel
theorem fR_line_53 : decode (m_cc M_R_line) 53 = .ok (.aload_n 0, 1) := by decide +kernel
theorem fR_line_54 : decode (m_cc M_R_line) 54 = .ok (.getfield 71, 3) := by decide +kernel
theorem fR_line_57 : decode (m_cc M_R_line) 57 = .ok (.ifCond .ne 45, 3) := by decide +kernel
theorem fR_line_60 : decode (m_cc M_R_line) 60 = .ok (.aload_n 0, 1) := by decide +kernel
theorem fR_line_61 : decode (m_cc M_R_line) 61 = .ok (.aload_n 0, 1) := by decide +kernel
theorem fR_line_62 : decode (m_cc M_R_line) 62 = .ok (.getfield 22, 3) := by decide +kernel
theorem fR_line_65 : decode (m_cc M_R_line) 65 = .ok (.iload_n 1, 1) := by decide +kernel
theorem fR_line_66 : decode (m_cc M_R_line) 66 = .ok (.iaload, 1) := by decide +kernel
theorem fR_line_67 : decode (m_cc M_R_line) 67 = .ok (.ifCond .eq 7, 3) := by decide +kernel
theorem fR_line_70 : decode (m_cc M_R_line) 70 = .ok (.iconst 3, 1) := by decide +kernel
theorem fR_line_71 : decode (m_cc M_R_line) 71 = .ok (.goto 28, 3) := by decide +kernel
theorem fR_line_74 : decode (m_cc M_R_line) 74 = .ok (.aload_n 0, 1) := by decide +kernel
theorem fR_line_75 : decode (m_cc M_R_line) 75 = .ok (.getfield 82, 3) := by decide +kernel
theorem fR_line_78 : decode (m_cc M_R_line) 78 = .ok (.bipush 60, 2) := by decide +kernel
theorem fR_line_80 : decode (m_cc M_R_line) 80 = .ok (.if_icmp .eq 14, 3) := by decide +kernel
theorem fR_line_83 : decode (m_cc M_R_line) 83 = .ok (.aload_n 0, 1) := by decide +kernel
theorem fR_line_84 : decode (m_cc M_R_line) 84 = .ok (.getfield 34, 3) := by decide +kernel
theorem fR_line_87 : decode (m_cc M_R_line) 87 = .ok (.iload_n 1, 1) := by decide +kernel
theorem fR_line_88 : decode (m_cc M_R_line) 88 = .ok (.iaload, 1) := by decide +kernel
theorem fR_line_89 : decode (m_cc M_R_line) 89 = .ok (.bipush 8, 2) := by decide +kernel
theorem fR_line_91 : decode (m_cc M_R_line) 91 = .ok (.if_icmp .ne 7, 3) := by decide +kernel
theorem fR_line_94 : decode (m_cc M_R_line) 94 = .ok (.iconst 4, 1) := by decide +kernel
theorem fR_line_95 : decode (m_cc M_R_line) 95 = .ok (.goto 4, 3) := by decide +kernel
theorem fR_line_98 : decode (m_cc M_R_line) 98 = .ok (.iconst 0, 1) := by decide +kernel
theorem fR_line_99 : decode (m_cc M_R_line) 99 = .ok (.putfield 71, 3) := by decide +kernel
theorem fR_line_102 : decode (m_cc M_R_line) 102 = .ok (.aload_n 0, 1) := by decide +kernel
theorem fR_line_103 : decode (m_cc M_R_line) 103 = .ok (.getfield 71, 3) := by decide +kernel
theorem fR_line_106 : decode (m_cc M_R_line) 106 = .ok (.ifCond .le 7, 3) := by decide +kernel
theorem fR_line_109 : decode (m_cc M_R_line) 109 = .ok (.iconst 0, 1) := by decide +kernel
theorem fR_line_110 : decode (m_cc M_R_line) 110 = .ok (.goto 12, 3) := by decide +kernel
theorem fR_line_113 : decode (m_cc M_R_line) 113 = .ok (.aload_n 0, 1) := by decide +kernel
theorem fR_line_114 : decode (m_cc M_R_line) 114 = .ok (.iload_n 1, 1) := by decide +kernel
theorem fR_line_115 : decode (m_cc M_R_line) 115 = .ok (.iload_n 2, 1) := by decide +kernel
theorem fR_line_116 : decode (m_cc M_R_line) 116 = .ok (.iload_n 3, 1) := by decide +kernel
theorem fR_line_117 : decode (m_cc M_R_line) 117 = .ok (.iload 4, 2) := by decide +kernel
theorem fR_line_119 : decode (m_cc M_R_line) 119 = .ok (.invokevirtual 98, 3) := by decide +kernel
theorem fR_line_122 : decode (m_cc M_R_line) 122 = .ok (.ireturn, 1) := by decide +kernel
theorem fR_hold_0 : decode (m_cc M_R_hold) 0 = .ok (.aload_n 0, 1) := by decide +kernel
theorem fR_hold_1 : decode (m_cc M_R_hold) 1 = .ok (.aload_n 0, 1) := by decide +kernel
theorem fR_hold_2 : decode (m_cc M_R_hold) 2 = .ok (.iload_n 1, 1) := by decide +kernel
theorem fR_hold_3 : decode (m_cc M_R_hold) 3 = .ok (.invokevirtual 101, 3) := by decide +kernel
theorem fR_hold_6 : decode (m_cc M_R_hold) 6 = .ok (.ifCond .ne 7, 3) := by decide +kernel
theorem fR_hold_9 : decode (m_cc M_R_hold) 9 = .ok (.iconst 1, 1) := by decide +kernel
theorem fR_hold_10 : decode (m_cc M_R_hold) 10 = .ok (.goto 19, 3) := by decide +kernel
theorem fR_hold_13 : decode (m_cc M_R_hold) 13 = .ok (.iload_n 2, 1) := by decide +kernel
theorem fR_hold_14 : decode (m_cc M_R_hold) 14 = .ok (.iconst 1, 1) := by decide +kernel
theorem fR_hold_15 : decode (m_cc M_R_hold) 15 = .ok (.sipush 1000, 3) := by decide +kernel
theorem fR_hold_18 : decode (m_cc M_R_hold) 18 = .ok (.invokestatic 78, 3) := by decide +kernel
theorem fR_hold_21 : decode (m_cc M_R_hold) 21 = .ok (.ifCond .ne 7, 3) := by decide +kernel
theorem fR_hold_24 : decode (m_cc M_R_hold) 24 = .ok (.iconst 2, 1) := by decide +kernel
theorem fR_hold_25 : decode (m_cc M_R_hold) 25 = .ok (.goto 4, 3) := by decide +kernel
theorem fR_hold_28 : decode (m_cc M_R_hold) 28 = .ok (.iconst 0, 1) := by decide +kernel
theorem fR_hold_29 : decode (m_cc M_R_hold) 29 = .ok (.putfield 71, 3) := by decide +kernel
theorem fR_hold_32 : decode (m_cc M_R_hold) 32 = .ok (.aload_n 0, 1) := by decide +kernel
theorem fR_hold_33 : decode (m_cc M_R_hold) 33 = .ok (.getfield 71, 3) := by decide +kernel
theorem fR_hold_36 : decode (m_cc M_R_hold) 36 = .ok (.ifCond .ne 53, 3) := by decide +kernel
theorem fR_hold_39 : decode (m_cc M_R_hold) 39 = .ok (.aload_n 0, 1) := by decide +kernel
theorem fR_hold_40 : decode (m_cc M_R_hold) 40 = .ok (.aload_n 0, 1) := by decide +kernel
theorem fR_hold_41 : decode (m_cc M_R_hold) 41 = .ok (.getfield 22, 3) := by decide +kernel
theorem fR_hold_44 : decode (m_cc M_R_hold) 44 = .ok (.aload_n 0, 1) := by decide +kernel
theorem fR_hold_45 : decode (m_cc M_R_hold) 45 = .ok (.getfield 40, 3) := by decide +kernel
theorem fR_hold_48 : decode (m_cc M_R_hold) 48 = .ok (.iload_n 1, 1) := by decide +kernel
theorem fR_hold_49 : decode (m_cc M_R_hold) 49 = .ok (.iaload, 1) := by decide +kernel
theorem fR_hold_50 : decode (m_cc M_R_hold) 50 = .ok (.iaload, 1) := by decide +kernel
theorem fR_hold_51 : decode (m_cc M_R_hold) 51 = .ok (.iconst 1, 1) := by decide +kernel
theorem fR_hold_52 : decode (m_cc M_R_hold) 52 = .ok (.if_icmp .gt 29, 3) := by decide +kernel
theorem fR_hold_55 : decode (m_cc M_R_hold) 55 = .ok (.aload_n 0, 1) := by decide +kernel
theorem fR_hold_56 : decode (m_cc M_R_hold) 56 = .ok (.getfield 64, 3) := by decide +kernel
theorem fR_hold_59 : decode (m_cc M_R_hold) 59 = .ok (.iload_n 1, 1) := by decide +kernel
theorem fR_hold_60 : decode (m_cc M_R_hold) 60 = .ok (.baload, 1) := by decide +kernel
theorem fR_hold_61 : decode (m_cc M_R_hold) 61 = .ok (.ifCond .eq 20, 3) := by decide +kernel
theorem fR_hold_64 : decode (m_cc M_R_hold) 64 = .ok (.aload_n 0, 1) := by decide +kernel
theorem fR_hold_65 : decode (m_cc M_R_hold) 65 = .ok (.getfield 55, 3) := by decide +kernel
theorem fR_hold_68 : decode (m_cc M_R_hold) 68 = .ok (.iload_n 1, 1) := by decide +kernel
theorem fR_hold_69 : decode (m_cc M_R_hold) 69 = .ok (.iaload, 1) := by decide +kernel
theorem fR_hold_70 : decode (m_cc M_R_hold) 70 = .ok (.iload_n 2, 1) := by decide +kernel
theorem fR_hold_71 : decode (m_cc M_R_hold) 71 = .ok (.iadd, 1) := by decide +kernel
theorem fR_hold_72 : decode (m_cc M_R_hold) 72 = .ok (.aload_n 0, 1) := by decide +kernel
theorem fR_hold_73 : decode (m_cc M_R_hold) 73 = .ok (.getfield 52, 3) := by decide +kernel
theorem fR_hold_76 : decode (m_cc M_R_hold) 76 = .ok (.iload_n 1, 1) := by decide +kernel
theorem fR_hold_77 : decode (m_cc M_R_hold) 77 = .ok (.iaload, 1) := by decide +kernel
theorem fR_hold_78 : decode (m_cc M_R_hold) 78 = .ok (.if_icmp .le 7, 3) := by decide +kernel
theorem fR_hold_81 : decode (m_cc M_R_hold) 81 = .ok (.iconst 3, 1) := by decide +kernel
theorem fR_hold_82 : decode (m_cc M_R_hold) 82 = .ok (.goto 4, 3) := by decide +kernel
theorem fR_hold_85 : decode (m_cc M_R_hold) 85 = .ok (.iconst 0, 1) := by decide +kernel
theorem fR_hold_86 : decode (m_cc M_R_hold) 86 = .ok (.putfield 71, 3) := by decide +kernel
theorem fR_hold_89 : decode (m_cc M_R_hold) 89 = .ok (.aload_n 0, 1) := by decide +kernel
theorem fR_hold_90 : decode (m_cc M_R_hold) 90 = .ok (.getfield 71, 3) := by decide +kernel
theorem fR_hold_93 : decode (m_cc M_R_hold) 93 = .ok (.ifCond .le 5, 3) := by decide +kernel
theorem fR_hold_96 : decode (m_cc M_R_hold) 96 = .ok (.iconst 0, 1) := by decide +kernel
theorem fR_hold_97 : decode (m_cc M_R_hold) 97 = .ok (.ireturn, 1) := by decide +kernel
theorem fR_hold_98 : decode (m_cc M_R_hold) 98 = .ok (.aload_n 0, 1) := by decide +kernel
theorem fR_hold_99 : decode (m_cc M_R_hold) 99 = .ok (.getfield 55, 3) := by decide +kernel
theorem fR_hold_102 : decode (m_cc M_R_hold) 102 = .ok (.iload_n 1, 1) := by decide +kernel
theorem fR_hold_103 : decode (m_cc M_R_hold) 103 = .ok (.dup2, 1) := by decide +kernel
theorem fR_hold_104 : decode (m_cc M_R_hold) 104 = .ok (.iaload, 1) := by decide +kernel
theorem fR_hold_105 : decode (m_cc M_R_hold) 105 = .ok (.iload_n 2, 1) := by decide +kernel
theorem fR_hold_106 : decode (m_cc M_R_hold) 106 = .ok (.iadd, 1) := by decide +kernel
theorem fR_hold_107 : decode (m_cc M_R_hold) 107 = .ok (.iastore, 1) := by decide +kernel
theorem fR_hold_108 : decode (m_cc M_R_hold) 108 = .ok (.aload_n 0, 1) := by decide +kernel
theorem fR_hold_109 : decode (m_cc M_R_hold) 109 = .ok (.getfield 28, 3) := by decide +kernel
theorem fR_hold_112 : decode (m_cc M_R_hold) 112 = .ok (.aload_n 0, 1) := by decide +kernel
theorem fR_hold_113 : decode (m_cc M_R_hold) 113 = .ok (.getfield 40, 3) := by decide +kernel
theorem fR_hold_116 : decode (m_cc M_R_hold) 116 = .ok (.iload_n 1, 1) := by decide +kernel
theorem fR_hold_117 : decode (m_cc M_R_hold) 117 = .ok (.iaload, 1) := by decide +kernel
theorem fR_hold_118 : decode (m_cc M_R_hold) 118 = .ok (.dup2, 1) := by decide +kernel
theorem fR_hold_119 : decode (m_cc M_R_hold) 119 = .ok (.iaload, 1) := by decide +kernel
theorem fR_hold_120 : decode (m_cc M_R_hold) 120 = .ok (.iconst 1, 1) := by decide +kernel
theorem fR_hold_121 : decode (m_cc M_R_hold) 121 = .ok (.iadd, 1) := by decide +kernel
theorem fR_hold_122 : decode (m_cc M_R_hold) 122 = .ok (.iastore, 1) := by decide +kernel
theorem fR_hold_123 : decode (m_cc M_R_hold) 123 = .ok (.aload_n 0, 1) := by decide +kernel
theorem fR_hold_124 : decode (m_cc M_R_hold) 124 = .ok (.getfield 55, 3) := by decide +kernel
theorem fR_hold_127 : decode (m_cc M_R_hold) 127 = .ok (.iload_n 1, 1) := by decide +kernel
theorem fR_hold_128 : decode (m_cc M_R_hold) 128 = .ok (.iaload, 1) := by decide +kernel
theorem fR_hold_129 : decode (m_cc M_R_hold) 129 = .ok (.ireturn, 1) := by decide +kernel
theorem fR_pick_0 : decode (m_cc M_R_pick) 0 = .ok (.aload_n 0, 1) := by decide +kernel
theorem fR_pick_1 : decode (m_cc M_R_pick) 1 = .ok (.aload_n 0, 1) := by decide +kernel
theorem fR_pick_2 : decode (m_cc M_R_pick) 2 = .ok (.iload_n 1, 1) := by decide +kernel
theorem fR_pick_3 : decode (m_cc M_R_pick) 3 = .ok (.invokevirtual 101, 3) := by decide +kernel
theorem fR_pick_6 : decode (m_cc M_R_pick) 6 = .ok (.ifCond .ne 7, 3) := by decide +kernel
theorem fR_pick_9 : decode (m_cc M_R_pick) 9 = .ok (.iconst 1, 1) := by decide +kernel
theorem fR_pick_10 : decode (m_cc M_R_pick) 10 = .ok (.goto 19, 3) := by decide +kernel
theorem fR_pick_13 : decode (m_cc M_R_pick) 13 = .ok (.iload_n 2, 1) := by decide +kernel
theorem fR_pick_14 : decode (m_cc M_R_pick) 14 = .ok (.iconst 1, 1) := by decide +kernel
theorem fR_pick_15 : decode (m_cc M_R_pick) 15 = .ok (.sipush 1000, 3) := by decide +kernel
theorem fR_pick_18 : decode (m_cc M_R_pick) 18 = .ok (.invokestatic 78, 3) := by decide +kernel
theorem fR_pick_21 : decode (m_cc M_R_pick) 21 = .ok (.ifCond .ne 7, 3) := by decide +kernel
theorem fR_pick_24 : decode (m_cc M_R_pick) 24 = .ok (.iconst 2, 1) := by decide +kernel
theorem fR_pick_25 : decode (m_cc M_R_pick) 25 = .ok (.goto 4, 3) := by decide +kernel
theorem fR_pick_28 : decode (m_cc M_R_pick) 28 = .ok (.iconst 0, 1) := by decide +kernel
theorem fR_pick_29 : decode (m_cc M_R_pick) 29 = .ok (.putfield 71, 3) := by decide +kernel
theorem fR_pick_32 : decode (m_cc M_R_pick) 32 = .ok (.aload_n 0, 1) := by decide +kernel
theorem fR_pick_33 : decode (m_cc M_R_pick) 33 = .ok (.getfield 71, 3) := by decide +kernel
theorem fR_pick_36 : decode (m_cc M_R_pick) 36 = .ok (.ifCond .ne 58, 3) := by decide +kernel
theorem fR_pick_39 : decode (m_cc M_R_pick) 39 = .ok (.aload_n 0, 1) := by decide +kernel
theorem fR_pick_40 : decode (m_cc M_R_pick) 40 = .ok (.aload_n 0, 1) := by decide +kernel
theorem fR_pick_41 : decode (m_cc M_R_pick) 41 = .ok (.getfield 22, 3) := by decide +kernel
theorem fR_pick_44 : decode (m_cc M_R_pick) 44 = .ok (.aload_n 0, 1) := by decide +kernel
theorem fR_pick_45 : decode (m_cc M_R_pick) 45 = .ok (.getfield 40, 3) := by decide +kernel
theorem fR_pick_48 : decode (m_cc M_R_pick) 48 = .ok (.iload_n 1, 1) := by decide +kernel
theorem fR_pick_49 : decode (m_cc M_R_pick) 49 = .ok (.iaload, 1) := by decide +kernel
theorem fR_pick_50 : decode (m_cc M_R_pick) 50 = .ok (.iaload, 1) := by decide +kernel
theorem fR_pick_51 : decode (m_cc M_R_pick) 51 = .ok (.iconst 2, 1) := by decide +kernel
theorem fR_pick_52 : decode (m_cc M_R_pick) 52 = .ok (.if_icmp .ne 34, 3) := by decide +kernel
theorem fR_pick_55 : decode (m_cc M_R_pick) 55 = .ok (.aload_n 0, 1) := by decide +kernel
theorem fR_pick_56 : decode (m_cc M_R_pick) 56 = .ok (.getfield 25, 3) := by decide +kernel
theorem fR_pick_59 : decode (m_cc M_R_pick) 59 = .ok (.aload_n 0, 1) := by decide +kernel
theorem fR_pick_60 : decode (m_cc M_R_pick) 60 = .ok (.getfield 40, 3) := by decide +kernel
theorem fR_pick_63 : decode (m_cc M_R_pick) 63 = .ok (.iload_n 1, 1) := by decide +kernel
theorem fR_pick_64 : decode (m_cc M_R_pick) 64 = .ok (.iaload, 1) := by decide +kernel
theorem fR_pick_65 : decode (m_cc M_R_pick) 65 = .ok (.iaload, 1) := by decide +kernel
theorem fR_pick_66 : decode (m_cc M_R_pick) 66 = .ok (.ifCond .ne 20, 3) := by decide +kernel
theorem fR_pick_69 : decode (m_cc M_R_pick) 69 = .ok (.aload_n 0, 1) := by decide +kernel
theorem fR_pick_70 : decode (m_cc M_R_pick) 70 = .ok (.getfield 58, 3) := by decide +kernel
theorem fR_pick_73 : decode (m_cc M_R_pick) 73 = .ok (.iload_n 1, 1) := by decide +kernel
theorem fR_pick_74 : decode (m_cc M_R_pick) 74 = .ok (.iaload, 1) := by decide +kernel
theorem fR_pick_75 : decode (m_cc M_R_pick) 75 = .ok (.iload_n 2, 1) := by decide +kernel
theorem fR_pick_76 : decode (m_cc M_R_pick) 76 = .ok (.iadd, 1) := by decide +kernel
theorem fR_pick_77 : decode (m_cc M_R_pick) 77 = .ok (.aload_n 0, 1) := by decide +kernel
theorem fR_pick_78 : decode (m_cc M_R_pick) 78 = .ok (.getfield 55, 3) := by decide +kernel
theorem fR_pick_81 : decode (m_cc M_R_pick) 81 = .ok (.iload_n 1, 1) := by decide +kernel
theorem fR_pick_82 : decode (m_cc M_R_pick) 82 = .ok (.iaload, 1) := by decide +kernel
theorem fR_pick_83 : decode (m_cc M_R_pick) 83 = .ok (.if_icmp .le 7, 3) := by decide +kernel
theorem fR_pick_86 : decode (m_cc M_R_pick) 86 = .ok (.iconst 3, 1) := by decide +kernel
theorem fR_pick_87 : decode (m_cc M_R_pick) 87 = .ok (.goto 4, 3) := by decide +kernel
theorem fR_pick_90 : decode (m_cc M_R_pick) 90 = .ok (.iconst 0, 1) := by decide +kernel
theorem fR_pick_91 : decode (m_cc M_R_pick) 91 = .ok (.putfield 71, 3) := by decide +kernel
theorem fR_pick_94 : decode (m_cc M_R_pick) 94 = .ok (.aload_n 0, 1) := by decide +kernel
theorem fR_pick_95 : decode (m_cc M_R_pick) 95 = .ok (.getfield 71, 3) := by decide +kernel
theorem fR_pick_98 : decode (m_cc M_R_pick) 98 = .ok (.ifCond .le 5, 3) := by decide +kernel
theorem fR_pick_101 : decode (m_cc M_R_pick) 101 = .ok (.iconst 0, 1) := by decide +kernel
theorem fR_pick_102 : decode (m_cc M_R_pick) 102 = .ok (.ireturn, 1) := by decide +kernel
theorem fR_pick_103 : decode (m_cc M_R_pick) 103 = .ok (.aload_n 0, 1) := by decide +kernel
theorem fR_pick_104 : decode (m_cc M_R_pick) 104 = .ok (.getfield 58, 3) := by decide +kernel
theorem fR_pick_107 : decode (m_cc M_R_pick) 107 = .ok (.iload_n 1, 1) := by decide +kernel
theorem fR_pick_108 : decode (m_cc M_R_pick) 108 = .ok (.dup2, 1) := by decide +kernel
theorem fR_pick_109 : decode (m_cc M_R_pick) 109 = .ok (.iaload, 1) := by decide +kernel
theorem fR_pick_110 : decode (m_cc M_R_pick) 110 = .ok (.iload_n 2, 1) := by decide +kernel
theorem fR_pick_111 : decode (m_cc M_R_pick) 111 = .ok (.iadd, 1) := by decide +kernel
theorem fR_pick_112 : decode (m_cc M_R_pick) 112 = .ok (.iastore, 1) := by decide +kernel
theorem fR_pick_113 : decode (m_cc M_R_pick) 113 = .ok (.aload_n 0, 1) := by decide +kernel
theorem fR_pick_114 : decode (m_cc M_R_pick) 114 = .ok (.getfield 28, 3) := by decide +kernel
theorem fR_pick_117 : decode (m_cc M_R_pick) 117 = .ok (.aload_n 0, 1) := by decide +kernel
theorem fR_pick_118 : decode (m_cc M_R_pick) 118 = .ok (.getfield 40, 3) := by decide +kernel
theorem fR_pick_121 : decode (m_cc M_R_pick) 121 = .ok (.iload_n 1, 1) := by decide +kernel
theorem fR_pick_122 : decode (m_cc M_R_pick) 122 = .ok (.iaload, 1) := by decide +kernel
theorem fR_pick_123 : decode (m_cc M_R_pick) 123 = .ok (.dup2, 1) := by decide +kernel
theorem fR_pick_124 : decode (m_cc M_R_pick) 124 = .ok (.iaload, 1) := by decide +kernel
theorem fR_pick_125 : decode (m_cc M_R_pick) 125 = .ok (.iconst 1, 1) := by decide +kernel
theorem fR_pick_126 : decode (m_cc M_R_pick) 126 = .ok (.iadd, 1) := by decide +kernel
theorem fR_pick_127 : decode (m_cc M_R_pick) 127 = .ok (.iastore, 1) := by decide +kernel
theorem fR_pick_128 : decode (m_cc M_R_pick) 128 = .ok (.aload_n 0, 1) := by decide +kernel
theorem fR_pick_129 : decode (m_cc M_R_pick) 129 = .ok (.getfield 58, 3) := by decide +kernel
theorem fR_pick_132 : decode (m_cc M_R_pick) 132 = .ok (.iload_n 1, 1) := by decide +kernel
theorem fR_pick_133 : decode (m_cc M_R_pick) 133 = .ok (.iaload, 1) := by decide +kernel
theorem fR_pick_134 : decode (m_cc M_R_pick) 134 = .ok (.ireturn, 1) := by decide +kernel
theorem fR_lineAt_0 : decode (m_cc M_R_lineAt) 0 = .ok (.aload_n 0, 1) := by decide +kernel
theorem fR_lineAt_1 : decode (m_cc M_R_lineAt) 1 = .ok (.getfield 37, 3) := by decide +kernel
theorem fR_lineAt_4 : decode (m_cc M_R_lineAt) 4 = .ok (.bipush 8, 2) := by decide +kernel
theorem fR_lineAt_6 : decode (m_cc M_R_lineAt) 6 = .ok (.iload_n 1, 1) := by decide +kernel
theorem fR_lineAt_7 : decode (m_cc M_R_lineAt) 7 = .ok (.imul, 1) := by decide +kernel
theorem fR_lineAt_8 : decode (m_cc M_R_lineAt) 8 = .ok (.iload_n 2, 1) := by decide +kernel
theorem fR_lineAt_9 : decode (m_cc M_R_lineAt) 9 = .ok (.iadd, 1) := by decide +kernel
theorem fR_lineAt_10 : decode (m_cc M_R_lineAt) 10 = .ok (.iaload, 1) := by decide +kernel
theorem fR_lineAt_11 : decode (m_cc M_R_lineAt) 11 = .ok (.ireturn, 1) := by decide +kernel
theorem fR_liveLines_0 : decode (m_cc M_R_liveLines) 0 = .ok (.iconst 0, 1) := by decide +kernel
theorem fR_liveLines_1 : decode (m_cc M_R_liveLines) 1 = .ok (.istore_n 2, 1) := by decide +kernel
theorem fR_liveLines_2 : decode (m_cc M_R_liveLines) 2 = .ok (.iconst 0, 1) := by decide +kernel
theorem fR_liveLines_3 : decode (m_cc M_R_liveLines) 3 = .ok (.istore_n 3, 1) := by decide +kernel
theorem fR_liveLines_4 : decode (m_cc M_R_liveLines) 4 = .ok (.iload_n 3, 1) := by decide +kernel
theorem fR_liveLines_5 : decode (m_cc M_R_liveLines) 5 = .ok (.aload_n 0, 1) := by decide +kernel
theorem fR_liveLines_6 : decode (m_cc M_R_liveLines) 6 = .ok (.getfield 34, 3) := by decide +kernel
theorem fR_liveLines_9 : decode (m_cc M_R_liveLines) 9 = .ok (.iload_n 1, 1) := by decide +kernel
theorem fR_liveLines_10 : decode (m_cc M_R_liveLines) 10 = .ok (.iaload, 1) := by decide +kernel
theorem fR_liveLines_11 : decode (m_cc M_R_liveLines) 11 = .ok (.if_icmp .ge 31, 3) := by decide +kernel
theorem fR_liveLines_14 : decode (m_cc M_R_liveLines) 14 = .ok (.iload_n 2, 1) := by decide +kernel
theorem fR_liveLines_15 : decode (m_cc M_R_liveLines) 15 = .ok (.aload_n 0, 1) := by decide +kernel
theorem fR_liveLines_16 : decode (m_cc M_R_liveLines) 16 = .ok (.getfield 64, 3) := by decide +kernel
theorem fR_liveLines_19 : decode (m_cc M_R_liveLines) 19 = .ok (.aload_n 0, 1) := by decide +kernel
theorem fR_liveLines_20 : decode (m_cc M_R_liveLines) 20 = .ok (.iload_n 1, 1) := by decide +kernel
theorem fR_liveLines_21 : decode (m_cc M_R_liveLines) 21 = .ok (.iload_n 3, 1) := by decide +kernel
theorem fR_liveLines_22 : decode (m_cc M_R_liveLines) 22 = .ok (.invokevirtual 104, 3) := by decide +kernel
theorem fR_liveLines_25 : decode (m_cc M_R_liveLines) 25 = .ok (.baload, 1) := by decide +kernel
theorem fR_liveLines_26 : decode (m_cc M_R_liveLines) 26 = .ok (.ifCond .eq 7, 3) := by decide +kernel
theorem fR_liveLines_29 : decode (m_cc M_R_liveLines) 29 = .ok (.iconst 1, 1) := by decide +kernel
theorem fR_liveLines_30 : decode (m_cc M_R_liveLines) 30 = .ok (.goto 4, 3) := by decide +kernel
theorem fR_liveLines_33 : decode (m_cc M_R_liveLines) 33 = .ok (.iconst 0, 1) := by decide +kernel
theorem fR_liveLines_34 : decode (m_cc M_R_liveLines) 34 = .ok (.iadd, 1) := by decide +kernel
theorem fR_liveLines_35 : decode (m_cc M_R_liveLines) 35 = .ok (.istore_n 2, 1) := by decide +kernel
theorem fR_liveLines_36 : decode (m_cc M_R_liveLines) 36 = .ok (.iinc 3 1, 3) := by decide +kernel
theorem fR_liveLines_39 : decode (m_cc M_R_liveLines) 39 = .ok (.goto (-35), 3) := by decide +kernel
theorem fR_liveLines_42 : decode (m_cc M_R_liveLines) 42 = .ok (.iload_n 2, 1) := by decide +kernel
theorem fR_liveLines_43 : decode (m_cc M_R_liveLines) 43 = .ok (.ireturn, 1) := by decide +kernel
theorem fR_isReady_0 : decode (m_cc M_R_isReady) 0 = .ok (.aload_n 0, 1) := by decide +kernel
theorem fR_isReady_1 : decode (m_cc M_R_isReady) 1 = .ok (.getfield 55, 3) := by decide +kernel
theorem fR_isReady_4 : decode (m_cc M_R_isReady) 4 = .ok (.iload_n 1, 1) := by decide +kernel
theorem fR_isReady_5 : decode (m_cc M_R_isReady) 5 = .ok (.iaload, 1) := by decide +kernel
theorem fR_isReady_6 : decode (m_cc M_R_isReady) 6 = .ok (.aload_n 0, 1) := by decide +kernel
theorem fR_isReady_7 : decode (m_cc M_R_isReady) 7 = .ok (.getfield 52, 3) := by decide +kernel
theorem fR_isReady_10 : decode (m_cc M_R_isReady) 10 = .ok (.iload_n 1, 1) := by decide +kernel
theorem fR_isReady_11 : decode (m_cc M_R_isReady) 11 = .ok (.iaload, 1) := by decide +kernel
theorem fR_isReady_12 : decode (m_cc M_R_isReady) 12 = .ok (.if_icmp .eq 30, 3) := by decide +kernel
theorem fR_isReady_15 : decode (m_cc M_R_isReady) 15 = .ok (.aload_n 0, 1) := by decide +kernel
theorem fR_isReady_16 : decode (m_cc M_R_isReady) 16 = .ok (.iload_n 1, 1) := by decide +kernel
theorem fR_isReady_17 : decode (m_cc M_R_isReady) 17 = .ok (.iconst 1, 1) := by decide +kernel
theorem fR_isReady_18 : decode (m_cc M_R_isReady) 18 = .ok (.invokevirtual 108, 3) := by decide +kernel
theorem fR_isReady_21 : decode (m_cc M_R_isReady) 21 = .ok (.ifCond .eq 12, 3) := by decide +kernel
theorem fR_isReady_24 : decode (m_cc M_R_isReady) 24 = .ok (.aload_n 0, 1) := by decide +kernel
theorem fR_isReady_25 : decode (m_cc M_R_isReady) 25 = .ok (.getfield 55, 3) := by decide +kernel
theorem fR_isReady_28 : decode (m_cc M_R_isReady) 28 = .ok (.iload_n 1, 1) := by decide +kernel
theorem fR_isReady_29 : decode (m_cc M_R_isReady) 29 = .ok (.iaload, 1) := by decide +kernel
theorem fR_isReady_30 : decode (m_cc M_R_isReady) 30 = .ok (.ifCond .gt 12, 3) := by decide +kernel
theorem fR_isReady_33 : decode (m_cc M_R_isReady) 33 = .ok (.aload_n 0, 1) := by decide +kernel
theorem fR_isReady_34 : decode (m_cc M_R_isReady) 34 = .ok (.iload_n 1, 1) := by decide +kernel
theorem fR_isReady_35 : decode (m_cc M_R_isReady) 35 = .ok (.iconst 4, 1) := by decide +kernel
theorem fR_isReady_36 : decode (m_cc M_R_isReady) 36 = .ok (.invokevirtual 108, 3) := by decide +kernel
theorem fR_isReady_39 : decode (m_cc M_R_isReady) 39 = .ok (.ifCond .eq 7, 3) := by decide +kernel
theorem fR_isReady_42 : decode (m_cc M_R_isReady) 42 = .ok (.iconst 1, 1) := by decide +kernel
theorem fR_isReady_43 : decode (m_cc M_R_isReady) 43 = .ok (.goto 4, 3) := by decide +kernel
theorem fR_isReady_46 : decode (m_cc M_R_isReady) 46 = .ok (.iconst 0, 1) := by decide +kernel
theorem fR_isReady_47 : decode (m_cc M_R_isReady) 47 = .ok (.ireturn, 1) := by decide +kernel
theorem fR_shortOf_0 : decode (m_cc M_R_shortOf) 0 = .ok (.aload_n 0, 1) := by decide +kernel
theorem fR_shortOf_1 : decode (m_cc M_R_shortOf) 1 = .ok (.getfield 64, 3) := by decide +kernel
theorem fR_shortOf_4 : decode (m_cc M_R_shortOf) 4 = .ok (.iload_n 1, 1) := by decide +kernel
theorem fR_shortOf_5 : decode (m_cc M_R_shortOf) 5 = .ok (.baload, 1) := by decide +kernel
theorem fR_shortOf_6 : decode (m_cc M_R_shortOf) 6 = .ok (.ifCond .eq 19, 3) := by decide +kernel
theorem fR_shortOf_9 : decode (m_cc M_R_shortOf) 9 = .ok (.aload_n 0, 1) := by decide +kernel
theorem fR_shortOf_10 : decode (m_cc M_R_shortOf) 10 = .ok (.getfield 52, 3) := by decide +kernel
theorem fR_shortOf_13 : decode (m_cc M_R_shortOf) 13 = .ok (.iload_n 1, 1) := by decide +kernel
theorem fR_shortOf_14 : decode (m_cc M_R_shortOf) 14 = .ok (.iaload, 1) := by decide +kernel
theorem fR_shortOf_15 : decode (m_cc M_R_shortOf) 15 = .ok (.aload_n 0, 1) := by decide +kernel
theorem fR_shortOf_16 : decode (m_cc M_R_shortOf) 16 = .ok (.getfield 61, 3) := by decide +kernel
theorem fR_shortOf_19 : decode (m_cc M_R_shortOf) 19 = .ok (.iload_n 1, 1) := by decide +kernel
theorem fR_shortOf_20 : decode (m_cc M_R_shortOf) 20 = .ok (.iaload, 1) := by decide +kernel
theorem fR_shortOf_21 : decode (m_cc M_R_shortOf) 21 = .ok (.isub, 1) := by decide +kernel
theorem fR_shortOf_22 : decode (m_cc M_R_shortOf) 22 = .ok (.goto 4, 3) := by decide +kernel
theorem fR_shortOf_25 : decode (m_cc M_R_shortOf) 25 = .ok (.iconst 0, 1) := by decide +kernel
theorem fR_shortOf_26 : decode (m_cc M_R_shortOf) 26 = .ok (.ireturn, 1) := by decide +kernel
theorem fR_mayGoOn_0 : decode (m_cc M_R_mayGoOn) 0 = .ok (.aload_n 0, 1) := by decide +kernel
theorem fR_mayGoOn_1 : decode (m_cc M_R_mayGoOn) 1 = .ok (.getfield 25, 3) := by decide +kernel
theorem fR_mayGoOn_4 : decode (m_cc M_R_mayGoOn) 4 = .ok (.iload_n 1, 1) := by decide +kernel
theorem fR_mayGoOn_5 : decode (m_cc M_R_mayGoOn) 5 = .ok (.iaload, 1) := by decide +kernel
theorem fR_mayGoOn_6 : decode (m_cc M_R_mayGoOn) 6 = .ok (.ifCond .ne 7, 3) := by decide +kernel
theorem fR_mayGoOn_9 : decode (m_cc M_R_mayGoOn) 9 = .ok (.iconst 1, 1) := by decide +kernel
theorem fR_mayGoOn_10 : decode (m_cc M_R_mayGoOn) 10 = .ok (.goto 4, 3) := by decide +kernel
theorem fR_mayGoOn_13 : decode (m_cc M_R_mayGoOn) 13 = .ok (.iconst 0, 1) := by decide +kernel
theorem fR_mayGoOn_14 : decode (m_cc M_R_mayGoOn) 14 = .ok (.istore_n 2, 1) := by decide +kernel
theorem fR_mayGoOn_15 : decode (m_cc M_R_mayGoOn) 15 = .ok (.aload_n 0, 1) := by decide +kernel
theorem fR_mayGoOn_16 : decode (m_cc M_R_mayGoOn) 16 = .ok (.getfield 22, 3) := by decide +kernel
theorem fR_mayGoOn_19 : decode (m_cc M_R_mayGoOn) 19 = .ok (.iload_n 1, 1) := by decide +kernel
theorem fR_mayGoOn_20 : decode (m_cc M_R_mayGoOn) 20 = .ok (.iaload, 1) := by decide +kernel
theorem fR_mayGoOn_21 : decode (m_cc M_R_mayGoOn) 21 = .ok (.ifCond .ne 21, 3) := by decide +kernel
theorem fR_mayGoOn_24 : decode (m_cc M_R_mayGoOn) 24 = .ok (.iload_n 2, 1) := by decide +kernel
theorem fR_mayGoOn_25 : decode (m_cc M_R_mayGoOn) 25 = .ok (.ifCond .eq 15, 3) := by decide +kernel
theorem fR_mayGoOn_28 : decode (m_cc M_R_mayGoOn) 28 = .ok (.aload_n 0, 1) := by decide +kernel
theorem fR_mayGoOn_29 : decode (m_cc M_R_mayGoOn) 29 = .ok (.iload_n 1, 1) := by decide +kernel
theorem fR_mayGoOn_30 : decode (m_cc M_R_mayGoOn) 30 = .ok (.invokevirtual 112, 3) := by decide +kernel
theorem fR_mayGoOn_33 : decode (m_cc M_R_mayGoOn) 33 = .ok (.ifCond .le 7, 3) := by decide +kernel
theorem fR_mayGoOn_36 : decode (m_cc M_R_mayGoOn) 36 = .ok (.iconst 1, 1) := by decide +kernel
theorem fR_mayGoOn_37 : decode (m_cc M_R_mayGoOn) 37 = .ok (.goto 4, 3) := by decide +kernel
theorem fR_mayGoOn_40 : decode (m_cc M_R_mayGoOn) 40 = .ok (.iconst 0, 1) := by decide +kernel
theorem fR_mayGoOn_41 : decode (m_cc M_R_mayGoOn) 41 = .ok (.istore_n 2, 1) := by decide +kernel
theorem fR_mayGoOn_42 : decode (m_cc M_R_mayGoOn) 42 = .ok (.iconst 0, 1) := by decide +kernel
theorem fR_mayGoOn_43 : decode (m_cc M_R_mayGoOn) 43 = .ok (.istore_n 3, 1) := by decide +kernel
theorem fR_mayGoOn_44 : decode (m_cc M_R_mayGoOn) 44 = .ok (.iload_n 3, 1) := by decide +kernel
theorem fR_mayGoOn_45 : decode (m_cc M_R_mayGoOn) 45 = .ok (.aload_n 0, 1) := by decide +kernel
theorem fR_mayGoOn_46 : decode (m_cc M_R_mayGoOn) 46 = .ok (.getfield 34, 3) := by decide +kernel
theorem fR_mayGoOn_49 : decode (m_cc M_R_mayGoOn) 49 = .ok (.iload_n 1, 1) := by decide +kernel
theorem fR_mayGoOn_50 : decode (m_cc M_R_mayGoOn) 50 = .ok (.iaload, 1) := by decide +kernel
theorem fR_mayGoOn_51 : decode (m_cc M_R_mayGoOn) 51 = .ok (.if_icmp .ge 144, 3) := by decide +kernel
theorem fR_mayGoOn_54 : decode (m_cc M_R_mayGoOn) 54 = .ok (.aload_n 0, 1) := by decide +kernel
theorem fR_mayGoOn_55 : decode (m_cc M_R_mayGoOn) 55 = .ok (.iload_n 1, 1) := by decide +kernel
theorem fR_mayGoOn_56 : decode (m_cc M_R_mayGoOn) 56 = .ok (.iload_n 3, 1) := by decide +kernel
theorem fR_mayGoOn_57 : decode (m_cc M_R_mayGoOn) 57 = .ok (.invokevirtual 104, 3) := by decide +kernel
theorem fR_mayGoOn_60 : decode (m_cc M_R_mayGoOn) 60 = .ok (.istore 4, 2) := by decide +kernel
theorem fR_mayGoOn_62 : decode (m_cc M_R_mayGoOn) 62 = .ok (.aload_n 0, 1) := by decide +kernel
theorem fR_mayGoOn_63 : decode (m_cc M_R_mayGoOn) 63 = .ok (.getfield 64, 3) := by decide +kernel
theorem fR_mayGoOn_66 : decode (m_cc M_R_mayGoOn) 66 = .ok (.iload 4, 2) := by decide +kernel
theorem fR_mayGoOn_68 : decode (m_cc M_R_mayGoOn) 68 = .ok (.baload, 1) := by decide +kernel
theorem fR_mayGoOn_69 : decode (m_cc M_R_mayGoOn) 69 = .ok (.ifCond .ne 6, 3) := by decide +kernel
theorem fR_mayGoOn_72 : decode (m_cc M_R_mayGoOn) 72 = .ok (.goto 117, 3) := by decide +kernel
theorem fR_mayGoOn_75 : decode (m_cc M_R_mayGoOn) 75 = .ok (.aload_n 0, 1) := by decide +kernel
theorem fR_mayGoOn_76 : decode (m_cc M_R_mayGoOn) 76 = .ok (.getfield 22, 3) := by decide +kernel
theorem fR_mayGoOn_79 : decode (m_cc M_R_mayGoOn) 79 = .ok (.iload_n 1, 1) := by decide +kernel
theorem fR_mayGoOn_80 : decode (m_cc M_R_mayGoOn) 80 = .ok (.iaload, 1) := by decide +kernel
theorem fR_mayGoOn_81 : decode (m_cc M_R_mayGoOn) 81 = .ok (.ifCond .ne 22, 3) := by decide +kernel
theorem fR_mayGoOn_84 : decode (m_cc M_R_mayGoOn) 84 = .ok (.iload_n 2, 1) := by decide +kernel
theorem fR_mayGoOn_85 : decode (m_cc M_R_mayGoOn) 85 = .ok (.ifCond .eq 16, 3) := by decide +kernel
theorem fR_mayGoOn_88 : decode (m_cc M_R_mayGoOn) 88 = .ok (.aload_n 0, 1) := by decide +kernel
theorem fR_mayGoOn_89 : decode (m_cc M_R_mayGoOn) 89 = .ok (.iload 4, 2) := by decide +kernel
theorem fR_mayGoOn_91 : decode (m_cc M_R_mayGoOn) 91 = .ok (.invokevirtual 116, 3) := by decide +kernel
theorem fR_mayGoOn_94 : decode (m_cc M_R_mayGoOn) 94 = .ok (.ifCond .eq 7, 3) := by decide +kernel
theorem fR_mayGoOn_97 : decode (m_cc M_R_mayGoOn) 97 = .ok (.iconst 1, 1) := by decide +kernel
theorem fR_mayGoOn_98 : decode (m_cc M_R_mayGoOn) 98 = .ok (.goto 4, 3) := by decide +kernel
theorem fR_mayGoOn_101 : decode (m_cc M_R_mayGoOn) 101 = .ok (.iconst 0, 1) := by decide +kernel
theorem fR_mayGoOn_102 : decode (m_cc M_R_mayGoOn) 102 = .ok (.istore_n 2, 1) := by decide +kernel
theorem fR_mayGoOn_103 : decode (m_cc M_R_mayGoOn) 103 = .ok (.aload_n 0, 1) := by decide +kernel
theorem fR_mayGoOn_104 : decode (m_cc M_R_mayGoOn) 104 = .ok (.getfield 22, 3) := by decide +kernel
theorem fR_mayGoOn_107 : decode (m_cc M_R_mayGoOn) 107 = .ok (.iload_n 1, 1) := by decide +kernel
theorem fR_mayGoOn_108 : decode (m_cc M_R_mayGoOn) 108 = .ok (.iaload, 1) := by decide +kernel
theorem fR_mayGoOn_109 : decode (m_cc M_R_mayGoOn) 109 = .ok (.iconst 2, 1) := by decide +kernel
theorem fR_mayGoOn_110 : decode (m_cc M_R_mayGoOn) 110 = .ok (.if_icmp .ne 30, 3) := by decide +kernel
theorem fR_mayGoOn_113 : decode (m_cc M_R_mayGoOn) 113 = .ok (.iload_n 2, 1) := by decide +kernel
theorem fR_mayGoOn_114 : decode (m_cc M_R_mayGoOn) 114 = .ok (.ifCond .eq 24, 3) := by decide +kernel
theorem fR_mayGoOn_117 : decode (m_cc M_R_mayGoOn) 117 = .ok (.aload_n 0, 1) := by decide +kernel
theorem fR_mayGoOn_118 : decode (m_cc M_R_mayGoOn) 118 = .ok (.getfield 58, 3) := by decide +kernel
theorem fR_mayGoOn_121 : decode (m_cc M_R_mayGoOn) 121 = .ok (.iload 4, 2) := by decide +kernel
theorem fR_mayGoOn_123 : decode (m_cc M_R_mayGoOn) 123 = .ok (.iaload, 1) := by decide +kernel
theorem fR_mayGoOn_124 : decode (m_cc M_R_mayGoOn) 124 = .ok (.aload_n 0, 1) := by decide +kernel
theorem fR_mayGoOn_125 : decode (m_cc M_R_mayGoOn) 125 = .ok (.getfield 55, 3) := by decide +kernel
theorem fR_mayGoOn_128 : decode (m_cc M_R_mayGoOn) 128 = .ok (.iload 4, 2) := by decide +kernel
theorem fR_mayGoOn_130 : decode (m_cc M_R_mayGoOn) 130 = .ok (.iaload, 1) := by decide +kernel
theorem fR_mayGoOn_131 : decode (m_cc M_R_mayGoOn) 131 = .ok (.if_icmp .ne 7, 3) := by decide +kernel
theorem fR_mayGoOn_134 : decode (m_cc M_R_mayGoOn) 134 = .ok (.iconst 1, 1) := by decide +kernel
theorem fR_mayGoOn_135 : decode (m_cc M_R_mayGoOn) 135 = .ok (.goto 4, 3) := by decide +kernel
theorem fR_mayGoOn_138 : decode (m_cc M_R_mayGoOn) 138 = .ok (.iconst 0, 1) := by decide +kernel
theorem fR_mayGoOn_139 : decode (m_cc M_R_mayGoOn) 139 = .ok (.istore_n 2, 1) := by decide +kernel
theorem fR_mayGoOn_140 : decode (m_cc M_R_mayGoOn) 140 = .ok (.aload_n 0, 1) := by decide +kernel
theorem fR_mayGoOn_141 : decode (m_cc M_R_mayGoOn) 141 = .ok (.getfield 22, 3) := by decide +kernel
theorem fR_mayGoOn_144 : decode (m_cc M_R_mayGoOn) 144 = .ok (.iload_n 1, 1) := by decide +kernel
theorem fR_mayGoOn_145 : decode (m_cc M_R_mayGoOn) 145 = .ok (.iaload, 1) := by decide +kernel
theorem fR_mayGoOn_146 : decode (m_cc M_R_mayGoOn) 146 = .ok (.iconst 4, 1) := by decide +kernel
theorem fR_mayGoOn_147 : decode (m_cc M_R_mayGoOn) 147 = .ok (.if_icmp .ne 42, 3) := by decide +kernel
theorem fR_mayGoOn_150 : decode (m_cc M_R_mayGoOn) 150 = .ok (.iload_n 2, 1) := by decide +kernel
theorem fR_mayGoOn_151 : decode (m_cc M_R_mayGoOn) 151 = .ok (.ifCond .eq 36, 3) := by decide +kernel
theorem fR_mayGoOn_154 : decode (m_cc M_R_mayGoOn) 154 = .ok (.aload_n 0, 1) := by decide +kernel
theorem fR_mayGoOn_155 : decode (m_cc M_R_mayGoOn) 155 = .ok (.iload 4, 2) := by decide +kernel
theorem fR_mayGoOn_157 : decode (m_cc M_R_mayGoOn) 157 = .ok (.iconst 4, 1) := by decide +kernel
theorem fR_mayGoOn_158 : decode (m_cc M_R_mayGoOn) 158 = .ok (.invokevirtual 108, 3) := by decide +kernel
theorem fR_mayGoOn_161 : decode (m_cc M_R_mayGoOn) 161 = .ok (.ifCond .eq 22, 3) := by decide +kernel
theorem fR_mayGoOn_164 : decode (m_cc M_R_mayGoOn) 164 = .ok (.aload_n 0, 1) := by decide +kernel
theorem fR_mayGoOn_165 : decode (m_cc M_R_mayGoOn) 165 = .ok (.iload 4, 2) := by decide +kernel
theorem fR_mayGoOn_167 : decode (m_cc M_R_mayGoOn) 167 = .ok (.invokevirtual 119, 3) := by decide +kernel
theorem fR_mayGoOn_170 : decode (m_cc M_R_mayGoOn) 170 = .ok (.ifCond .le 13, 3) := by decide +kernel
theorem fR_mayGoOn_173 : decode (m_cc M_R_mayGoOn) 173 = .ok (.aload_n 0, 1) := by decide +kernel
theorem fR_mayGoOn_174 : decode (m_cc M_R_mayGoOn) 174 = .ok (.getfield 68, 3) := by decide +kernel
theorem fR_mayGoOn_177 : decode (m_cc M_R_mayGoOn) 177 = .ok (.iload 4, 2) := by decide +kernel
theorem fR_mayGoOn_179 : decode (m_cc M_R_mayGoOn) 179 = .ok (.baload, 1) := by decide +kernel
theorem fR_mayGoOn_180 : decode (m_cc M_R_mayGoOn) 180 = .ok (.ifCond .eq 7, 3) := by decide +kernel
theorem fR_mayGoOn_183 : decode (m_cc M_R_mayGoOn) 183 = .ok (.iconst 1, 1) := by decide +kernel
theorem fR_mayGoOn_184 : decode (m_cc M_R_mayGoOn) 184 = .ok (.goto 4, 3) := by decide +kernel
theorem fR_mayGoOn_187 : decode (m_cc M_R_mayGoOn) 187 = .ok (.iconst 0, 1) := by decide +kernel
theorem fR_mayGoOn_188 : decode (m_cc M_R_mayGoOn) 188 = .ok (.istore_n 2, 1) := by decide +kernel
theorem fR_mayGoOn_189 : decode (m_cc M_R_mayGoOn) 189 = .ok (.iinc 3 1, 3) := by decide +kernel
theorem fR_mayGoOn_192 : decode (m_cc M_R_mayGoOn) 192 = .ok (.goto (-148), 3) := by decide +kernel
theorem fR_mayGoOn_195 : decode (m_cc M_R_mayGoOn) 195 = .ok (.iload_n 2, 1) := by decide +kernel
theorem fR_mayGoOn_196 : decode (m_cc M_R_mayGoOn) 196 = .ok (.ireturn, 1) := by decide +kernel
theorem fR_goOn_0 : decode (m_cc M_R_goOn) 0 = .ok (.aload_n 0, 1) := by decide +kernel
theorem fR_goOn_1 : decode (m_cc M_R_goOn) 1 = .ok (.aload_n 0, 1) := by decide +kernel
theorem fR_goOn_2 : decode (m_cc M_R_goOn) 2 = .ok (.iload_n 1, 1) := by decide +kernel
theorem fR_goOn_3 : decode (m_cc M_R_goOn) 3 = .ok (.invokevirtual 94, 3) := by decide +kernel
theorem fR_goOn_6 : decode (m_cc M_R_goOn) 6 = .ok (.ifCond .ne 7, 3) := by decide +kernel
theorem fR_goOn_9 : decode (m_cc M_R_goOn) 9 = .ok (.iconst 1, 1) := by decide +kernel
theorem fR_goOn_10 : decode (m_cc M_R_goOn) 10 = .ok (.goto 4, 3) := by decide +kernel
theorem fR_goOn_13 : decode (m_cc M_R_goOn) 13 = .ok (.iconst 0, 1) := by decide +kernel
theorem fR_goOn_14 : decode (m_cc M_R_goOn) 14 = .ok (.putfield 71, 3) := by decide +kernel
theorem fR_goOn_17 : decode (m_cc M_R_goOn) 17 = .ok (.aload_n 0, 1) := by decide +kernel
theorem fR_goOn_18 : decode (m_cc M_R_goOn) 18 = .ok (.getfield 71, 3) := by decide +kernel
theorem fR_goOn_21 : decode (m_cc M_R_goOn) 21 = .ok (.ifCond .ne 22, 3) := by decide +kernel
theorem fR_goOn_24 : decode (m_cc M_R_goOn) 24 = .ok (.aload_n 0, 1) := by decide +kernel
theorem fR_goOn_25 : decode (m_cc M_R_goOn) 25 = .ok (.aload_n 0, 1) := by decide +kernel
theorem fR_goOn_26 : decode (m_cc M_R_goOn) 26 = .ok (.getfield 22, 3) := by decide +kernel
theorem fR_goOn_29 : decode (m_cc M_R_goOn) 29 = .ok (.iload_n 1, 1) := by decide +kernel
theorem fR_goOn_30 : decode (m_cc M_R_goOn) 30 = .ok (.iaload, 1) := by decide +kernel
theorem fR_goOn_31 : decode (m_cc M_R_goOn) 31 = .ok (.iconst 5, 1) := by decide +kernel
theorem fR_goOn_32 : decode (m_cc M_R_goOn) 32 = .ok (.if_icmp .lt 7, 3) := by decide +kernel
theorem fR_goOn_35 : decode (m_cc M_R_goOn) 35 = .ok (.iconst 2, 1) := by decide +kernel
theorem fR_goOn_36 : decode (m_cc M_R_goOn) 36 = .ok (.goto 4, 3) := by decide +kernel
theorem fR_goOn_39 : decode (m_cc M_R_goOn) 39 = .ok (.iconst 0, 1) := by decide +kernel
theorem fR_goOn_40 : decode (m_cc M_R_goOn) 40 = .ok (.putfield 71, 3) := by decide +kernel
theorem fR_goOn_43 : decode (m_cc M_R_goOn) 43 = .ok (.aload_n 0, 1) := by decide +kernel
theorem fR_goOn_44 : decode (m_cc M_R_goOn) 44 = .ok (.getfield 71, 3) := by decide +kernel
theorem fR_goOn_47 : decode (m_cc M_R_goOn) 47 = .ok (.ifCond .le 5, 3) := by decide +kernel
theorem fR_goOn_50 : decode (m_cc M_R_goOn) 50 = .ok (.iconst 0, 1) := by decide +kernel
theorem fR_goOn_51 : decode (m_cc M_R_goOn) 51 = .ok (.ireturn, 1) := by decide +kernel
theorem fR_goOn_52 : decode (m_cc M_R_goOn) 52 = .ok (.aload_n 0, 1) := by decide +kernel
theorem fR_goOn_53 : decode (m_cc M_R_goOn) 53 = .ok (.iload_n 1, 1) := by decide +kernel
theorem fR_goOn_54 : decode (m_cc M_R_goOn) 54 = .ok (.invokevirtual 122, 3) := by decide +kernel
theorem fR_goOn_57 : decode (m_cc M_R_goOn) 57 = .ok (.ifCond .ne 5, 3) := by decide +kernel
theorem fR_goOn_60 : decode (m_cc M_R_goOn) 60 = .ok (.iconst (-1), 1) := by decide +kernel
theorem fR_goOn_61 : decode (m_cc M_R_goOn) 61 = .ok (.ireturn, 1) := by decide +kernel
theorem fR_goOn_62 : decode (m_cc M_R_goOn) 62 = .ok (.aload_n 0, 1) := by decide +kernel
theorem fR_goOn_63 : decode (m_cc M_R_goOn) 63 = .ok (.getfield 22, 3) := by decide +kernel
theorem fR_goOn_66 : decode (m_cc M_R_goOn) 66 = .ok (.iload_n 1, 1) := by decide +kernel
theorem fR_goOn_67 : decode (m_cc M_R_goOn) 67 = .ok (.dup2, 1) := by decide +kernel
theorem fR_goOn_68 : decode (m_cc M_R_goOn) 68 = .ok (.iaload, 1) := by decide +kernel
theorem fR_goOn_69 : decode (m_cc M_R_goOn) 69 = .ok (.iconst 1, 1) := by decide +kernel
theorem fR_goOn_70 : decode (m_cc M_R_goOn) 70 = .ok (.iadd, 1) := by decide +kernel
theorem fR_goOn_71 : decode (m_cc M_R_goOn) 71 = .ok (.iastore, 1) := by decide +kernel
theorem fR_goOn_72 : decode (m_cc M_R_goOn) 72 = .ok (.aload_n 0, 1) := by decide +kernel
theorem fR_goOn_73 : decode (m_cc M_R_goOn) 73 = .ok (.getfield 28, 3) := by decide +kernel
theorem fR_goOn_76 : decode (m_cc M_R_goOn) 76 = .ok (.iload_n 1, 1) := by decide +kernel
theorem fR_goOn_77 : decode (m_cc M_R_goOn) 77 = .ok (.dup2, 1) := by decide +kernel
theorem fR_goOn_78 : decode (m_cc M_R_goOn) 78 = .ok (.iaload, 1) := by decide +kernel
theorem fR_goOn_79 : decode (m_cc M_R_goOn) 79 = .ok (.iconst 1, 1) := by decide +kernel
theorem fR_goOn_80 : decode (m_cc M_R_goOn) 80 = .ok (.iadd, 1) := by decide +kernel
theorem fR_goOn_81 : decode (m_cc M_R_goOn) 81 = .ok (.iastore, 1) := by decide +kernel
theorem fR_goOn_82 : decode (m_cc M_R_goOn) 82 = .ok (.iconst 0, 1) := by decide +kernel
theorem fR_goOn_83 : decode (m_cc M_R_goOn) 83 = .ok (.istore_n 2, 1) := by decide +kernel
theorem fR_goOn_84 : decode (m_cc M_R_goOn) 84 = .ok (.iload_n 2, 1) := by decide +kernel
theorem fR_goOn_85 : decode (m_cc M_R_goOn) 85 = .ok (.aload_n 0, 1) := by decide +kernel
theorem fR_goOn_86 : decode (m_cc M_R_goOn) 86 = .ok (.getfield 34, 3) := by decide +kernel
theorem fR_goOn_89 : decode (m_cc M_R_goOn) 89 = .ok (.iload_n 1, 1) := by decide +kernel
theorem fR_goOn_90 : decode (m_cc M_R_goOn) 90 = .ok (.iaload, 1) := by decide +kernel
theorem fR_goOn_91 : decode (m_cc M_R_goOn) 91 = .ok (.if_icmp .ge 41, 3) := by decide +kernel
theorem fR_goOn_94 : decode (m_cc M_R_goOn) 94 = .ok (.aload_n 0, 1) := by decide +kernel
theorem fR_goOn_95 : decode (m_cc M_R_goOn) 95 = .ok (.getfield 22, 3) := by decide +kernel
theorem fR_goOn_98 : decode (m_cc M_R_goOn) 98 = .ok (.iload_n 1, 1) := by decide +kernel
theorem fR_goOn_99 : decode (m_cc M_R_goOn) 99 = .ok (.iaload, 1) := by decide +kernel
theorem fR_goOn_100 : decode (m_cc M_R_goOn) 100 = .ok (.iconst 4, 1) := by decide +kernel
theorem fR_goOn_101 : decode (m_cc M_R_goOn) 101 = .ok (.if_icmp .ne 31, 3) := by decide +kernel
theorem fR_goOn_104 : decode (m_cc M_R_goOn) 104 = .ok (.aload_n 0, 1) := by decide +kernel
theorem fR_goOn_105 : decode (m_cc M_R_goOn) 105 = .ok (.getfield 61, 3) := by decide +kernel
theorem fR_goOn_108 : decode (m_cc M_R_goOn) 108 = .ok (.aload_n 0, 1) := by decide +kernel
theorem fR_goOn_109 : decode (m_cc M_R_goOn) 109 = .ok (.iload_n 1, 1) := by decide +kernel
theorem fR_goOn_110 : decode (m_cc M_R_goOn) 110 = .ok (.iload_n 2, 1) := by decide +kernel
theorem fR_goOn_111 : decode (m_cc M_R_goOn) 111 = .ok (.invokevirtual 104, 3) := by decide +kernel
theorem fR_goOn_114 : decode (m_cc M_R_goOn) 114 = .ok (.aload_n 0, 1) := by decide +kernel
theorem fR_goOn_115 : decode (m_cc M_R_goOn) 115 = .ok (.getfield 58, 3) := by decide +kernel
theorem fR_goOn_118 : decode (m_cc M_R_goOn) 118 = .ok (.aload_n 0, 1) := by decide +kernel
theorem fR_goOn_119 : decode (m_cc M_R_goOn) 119 = .ok (.iload_n 1, 1) := by decide +kernel
theorem fR_goOn_120 : decode (m_cc M_R_goOn) 120 = .ok (.iload_n 2, 1) := by decide +kernel
theorem fR_goOn_121 : decode (m_cc M_R_goOn) 121 = .ok (.invokevirtual 104, 3) := by decide +kernel
theorem fR_goOn_124 : decode (m_cc M_R_goOn) 124 = .ok (.iaload, 1) := by decide +kernel
theorem fR_goOn_125 : decode (m_cc M_R_goOn) 125 = .ok (.iastore, 1) := by decide +kernel
theorem fR_goOn_126 : decode (m_cc M_R_goOn) 126 = .ok (.iinc 2 1, 3) := by decide +kernel
theorem fR_goOn_129 : decode (m_cc M_R_goOn) 129 = .ok (.goto (-45), 3) := by decide +kernel
theorem fR_goOn_132 : decode (m_cc M_R_goOn) 132 = .ok (.aload_n 0, 1) := by decide +kernel
theorem fR_goOn_133 : decode (m_cc M_R_goOn) 133 = .ok (.getfield 22, 3) := by decide +kernel
theorem fR_goOn_136 : decode (m_cc M_R_goOn) 136 = .ok (.iload_n 1, 1) := by decide +kernel
theorem fR_goOn_137 : decode (m_cc M_R_goOn) 137 = .ok (.iaload, 1) := by decide +kernel
theorem fR_goOn_138 : decode (m_cc M_R_goOn) 138 = .ok (.ireturn, 1) := by decide +kernel
theorem fR_change_0 : decode (m_cc M_R_change) 0 = .ok (.iload_n 2, 1) := by decide +kernel
theorem fR_change_1 : decode (m_cc M_R_change) 1 = .ok (.ifCond .ne 14, 3) := by decide +kernel
theorem fR_change_4 : decode (m_cc M_R_change) 4 = .ok (.iload_n 3, 1) := by decide +kernel
theorem fR_change_5 : decode (m_cc M_R_change) 5 = .ok (.iconst 1, 1) := by decide +kernel
theorem fR_change_6 : decode (m_cc M_R_change) 6 = .ok (.sipush 1000, 3) := by decide +kernel
theorem fR_change_9 : decode (m_cc M_R_change) 9 = .ok (.invokestatic 78, 3) := by decide +kernel
theorem fR_change_12 : decode (m_cc M_R_change) 12 = .ok (.goto 38, 3) := by decide +kernel
theorem fR_change_15 : decode (m_cc M_R_change) 15 = .ok (.iload_n 2, 1) := by decide +kernel
theorem fR_change_16 : decode (m_cc M_R_change) 16 = .ok (.iconst 1, 1) := by decide +kernel
theorem fR_change_17 : decode (m_cc M_R_change) 17 = .ok (.if_icmp .ne 13, 3) := by decide +kernel
theorem fR_change_20 : decode (m_cc M_R_change) 20 = .ok (.iload_n 3, 1) := by decide +kernel
theorem fR_change_21 : decode (m_cc M_R_change) 21 = .ok (.iconst 0, 1) := by decide +kernel
theorem fR_change_22 : decode (m_cc M_R_change) 22 = .ok (.bipush 15, 2) := by decide +kernel
theorem fR_change_24 : decode (m_cc M_R_change) 24 = .ok (.invokestatic 78, 3) := by decide +kernel
theorem fR_change_27 : decode (m_cc M_R_change) 27 = .ok (.goto 23, 3) := by decide +kernel
theorem fR_change_30 : decode (m_cc M_R_change) 30 = .ok (.iload_n 2, 1) := by decide +kernel
theorem fR_change_31 : decode (m_cc M_R_change) 31 = .ok (.iconst 2, 1) := by decide +kernel
theorem fR_change_32 : decode (m_cc M_R_change) 32 = .ok (.if_icmp .ne 17, 3) := by decide +kernel
theorem fR_change_35 : decode (m_cc M_R_change) 35 = .ok (.iload_n 3, 1) := by decide +kernel
theorem fR_change_36 : decode (m_cc M_R_change) 36 = .ok (.iconst 0, 1) := by decide +kernel
theorem fR_change_37 : decode (m_cc M_R_change) 37 = .ok (.bipush 7, 2) := by decide +kernel
theorem fR_change_39 : decode (m_cc M_R_change) 39 = .ok (.invokestatic 78, 3) := by decide +kernel
theorem fR_change_42 : decode (m_cc M_R_change) 42 = .ok (.ifCond .eq 7, 3) := by decide +kernel
theorem fR_change_45 : decode (m_cc M_R_change) 45 = .ok (.iconst 1, 1) := by decide +kernel
theorem fR_change_46 : decode (m_cc M_R_change) 46 = .ok (.goto 4, 3) := by decide +kernel
theorem fR_change_49 : decode (m_cc M_R_change) 49 = .ok (.iconst 0, 1) := by decide +kernel
theorem fR_change_50 : decode (m_cc M_R_change) 50 = .ok (.istore 4, 2) := by decide +kernel
theorem fR_change_52 : decode (m_cc M_R_change) 52 = .ok (.aload_n 0, 1) := by decide +kernel
theorem fR_change_53 : decode (m_cc M_R_change) 53 = .ok (.aload_n 0, 1) := by decide +kernel
theorem fR_change_54 : decode (m_cc M_R_change) 54 = .ok (.iload_n 1, 1) := by decide +kernel
theorem fR_change_55 : decode (m_cc M_R_change) 55 = .ok (.invokevirtual 101, 3) := by decide +kernel
theorem fR_change_58 : decode (m_cc M_R_change) 58 = .ok (.ifCond .ne 7, 3) := by decide +kernel
theorem fR_change_61 : decode (m_cc M_R_change) 61 = .ok (.iconst 1, 1) := by decide +kernel
theorem fR_change_62 : decode (m_cc M_R_change) 62 = .ok (.goto 13, 3) := by decide +kernel
theorem fR_change_65 : decode (m_cc M_R_change) 65 = .ok (.iload 4, 2) := by decide +kernel
theorem fR_change_67 : decode (m_cc M_R_change) 67 = .ok (.ifCond .ne 7, 3) := by decide +kernel
theorem fR_change_70 : decode (m_cc M_R_change) 70 = .ok (.iconst 2, 1) := by decide +kernel
theorem fR_change_71 : decode (m_cc M_R_change) 71 = .ok (.goto 4, 3) := by decide +kernel
theorem fR_change_74 : decode (m_cc M_R_change) 74 = .ok (.iconst 0, 1) := by decide +kernel
theorem fR_change_75 : decode (m_cc M_R_change) 75 = .ok (.putfield 71, 3) := by decide +kernel
theorem fR_change_78 : decode (m_cc M_R_change) 78 = .ok (.aload_n 0, 1) := by decide +kernel
theorem fR_change_79 : decode (m_cc M_R_change) 79 = .ok (.getfield 71, 3) := by decide +kernel
theorem fR_change_82 : decode (m_cc M_R_change) 82 = .ok (.ifCond .ne 21, 3) := by decide +kernel
theorem fR_change_85 : decode (m_cc M_R_change) 85 = .ok (.aload_n 0, 1) := by decide +kernel
theorem fR_change_86 : decode (m_cc M_R_change) 86 = .ok (.aload_n 0, 1) := by decide +kernel
theorem fR_change_87 : decode (m_cc M_R_change) 87 = .ok (.getfield 64, 3) := by decide +kernel
theorem fR_change_90 : decode (m_cc M_R_change) 90 = .ok (.iload_n 1, 1) := by decide +kernel
theorem fR_change_91 : decode (m_cc M_R_change) 91 = .ok (.baload, 1) := by decide +kernel
theorem fR_change_92 : decode (m_cc M_R_change) 92 = .ok (.ifCond .ne 7, 3) := by decide +kernel
theorem fR_change_95 : decode (m_cc M_R_change) 95 = .ok (.iconst 3, 1) := by decide +kernel
theorem fR_change_96 : decode (m_cc M_R_change) 96 = .ok (.goto 4, 3) := by decide +kernel
theorem fR_change_99 : decode (m_cc M_R_change) 99 = .ok (.iconst 0, 1) := by decide +kernel
theorem fR_change_100 : decode (m_cc M_R_change) 100 = .ok (.putfield 71, 3) := by decide +kernel
theorem fR_change_103 : decode (m_cc M_R_change) 103 = .ok (.aload_n 0, 1) := by decide +kernel
theorem fR_change_104 : decode (m_cc M_R_change) 104 = .ok (.getfield 71, 3) := by decide +kernel
theorem fR_change_107 : decode (m_cc M_R_change) 107 = .ok (.ifCond .le 5, 3) := by decide +kernel
theorem fR_change_110 : decode (m_cc M_R_change) 110 = .ok (.iconst 0, 1) := by decide +kernel
theorem fR_change_111 : decode (m_cc M_R_change) 111 = .ok (.ireturn, 1) := by decide +kernel
theorem fR_change_112 : decode (m_cc M_R_change) 112 = .ok (.aload_n 0, 1) := by decide +kernel
theorem fR_change_113 : decode (m_cc M_R_change) 113 = .ok (.getfield 40, 3) := by decide +kernel
theorem fR_change_116 : decode (m_cc M_R_change) 116 = .ok (.iload_n 1, 1) := by decide +kernel
theorem fR_change_117 : decode (m_cc M_R_change) 117 = .ok (.iaload, 1) := by decide +kernel
theorem fR_change_118 : decode (m_cc M_R_change) 118 = .ok (.istore 5, 2) := by decide +kernel
theorem fR_change_120 : decode (m_cc M_R_change) 120 = .ok (.aload_n 0, 1) := by decide +kernel
theorem fR_change_121 : decode (m_cc M_R_change) 121 = .ok (.getfield 22, 3) := by decide +kernel
theorem fR_change_124 : decode (m_cc M_R_change) 124 = .ok (.iload 5, 2) := by decide +kernel
theorem fR_change_126 : decode (m_cc M_R_change) 126 = .ok (.iaload, 1) := by decide +kernel
theorem fR_change_127 : decode (m_cc M_R_change) 127 = .ok (.iload_n 2, 1) := by decide +kernel
theorem fR_change_128 : decode (m_cc M_R_change) 128 = .ok (.iconst 2, 1) := by decide +kernel
theorem fR_change_129 : decode (m_cc M_R_change) 129 = .ok (.if_icmp .ne 7, 3) := by decide +kernel
theorem fR_change_132 : decode (m_cc M_R_change) 132 = .ok (.iconst 1, 1) := by decide +kernel
theorem fR_change_133 : decode (m_cc M_R_change) 133 = .ok (.goto 4, 3) := by decide +kernel
theorem fR_change_136 : decode (m_cc M_R_change) 136 = .ok (.iconst 0, 1) := by decide +kernel
theorem fR_change_137 : decode (m_cc M_R_change) 137 = .ok (.if_icmp .le 5, 3) := by decide +kernel
theorem fR_change_140 : decode (m_cc M_R_change) 140 = .ok (.iconst 0, 1) := by decide +kernel
theorem fR_change_141 : decode (m_cc M_R_change) 141 = .ok (.ireturn, 1) := by decide +kernel
theorem fR_change_142 : decode (m_cc M_R_change) 142 = .ok (.aload_n 0, 1) := by decide +kernel
theorem fR_change_143 : decode (m_cc M_R_change) 143 = .ok (.iload_n 2, 1) := by decide +kernel
theorem fR_change_144 : decode (m_cc M_R_change) 144 = .ok (.iconst 1, 1) := by decide +kernel
theorem fR_change_145 : decode (m_cc M_R_change) 145 = .ok (.if_icmp .ne 26, 3) := by decide +kernel
theorem fR_change_148 : decode (m_cc M_R_change) 148 = .ok (.aload_n 0, 1) := by decide +kernel
theorem fR_change_149 : decode (m_cc M_R_change) 149 = .ok (.iload_n 1, 1) := by decide +kernel
theorem fR_change_150 : decode (m_cc M_R_change) 150 = .ok (.iconst 2, 1) := by decide +kernel
theorem fR_change_151 : decode (m_cc M_R_change) 151 = .ok (.invokevirtual 108, 3) := by decide +kernel
theorem fR_change_154 : decode (m_cc M_R_change) 154 = .ok (.ifCond .eq 13, 3) := by decide +kernel
theorem fR_change_157 : decode (m_cc M_R_change) 157 = .ok (.aload_n 0, 1) := by decide +kernel
theorem fR_change_158 : decode (m_cc M_R_change) 158 = .ok (.getfield 43, 3) := by decide +kernel
theorem fR_change_161 : decode (m_cc M_R_change) 161 = .ok (.iload_n 1, 1) := by decide +kernel
theorem fR_change_162 : decode (m_cc M_R_change) 162 = .ok (.iaload, 1) := by decide +kernel
theorem fR_change_163 : decode (m_cc M_R_change) 163 = .ok (.iload_n 3, 1) := by decide +kernel
theorem fR_change_164 : decode (m_cc M_R_change) 164 = .ok (.if_icmp .ne 7, 3) := by decide +kernel
theorem fR_change_167 : decode (m_cc M_R_change) 167 = .ok (.iconst 3, 1) := by decide +kernel
theorem fR_change_168 : decode (m_cc M_R_change) 168 = .ok (.goto 4, 3) := by decide +kernel
theorem fR_change_171 : decode (m_cc M_R_change) 171 = .ok (.iconst 0, 1) := by decide +kernel
theorem fR_change_172 : decode (m_cc M_R_change) 172 = .ok (.putfield 71, 3) := by decide +kernel
theorem fR_change_175 : decode (m_cc M_R_change) 175 = .ok (.aload_n 0, 1) := by decide +kernel
theorem fR_change_176 : decode (m_cc M_R_change) 176 = .ok (.getfield 71, 3) := by decide +kernel
theorem fR_change_179 : decode (m_cc M_R_change) 179 = .ok (.ifCond .le 5, 3) := by decide +kernel
theorem fR_change_182 : decode (m_cc M_R_change) 182 = .ok (.iconst 0, 1) := by decide +kernel
theorem fR_change_183 : decode (m_cc M_R_change) 183 = .ok (.ireturn, 1) := by decide +kernel
theorem fR_change_184 : decode (m_cc M_R_change) 184 = .ok (.iload_n 2, 1) := by decide +kernel
theorem fR_change_185 : decode (m_cc M_R_change) 185 = .ok (.ifCond .ne 39, 3) := by decide +kernel
theorem fR_change_188 : decode (m_cc M_R_change) 188 = .ok (.aload_n 0, 1) := by decide +kernel
theorem fR_change_189 : decode (m_cc M_R_change) 189 = .ok (.getfield 52, 3) := by decide +kernel
theorem fR_change_192 : decode (m_cc M_R_change) 192 = .ok (.iload_n 1, 1) := by decide +kernel
theorem fR_change_193 : decode (m_cc M_R_change) 193 = .ok (.iload_n 3, 1) := by decide +kernel
theorem fR_change_194 : decode (m_cc M_R_change) 194 = .ok (.iastore, 1) := by decide +kernel
theorem fR_change_195 : decode (m_cc M_R_change) 195 = .ok (.aload_n 0, 1) := by decide +kernel
theorem fR_change_196 : decode (m_cc M_R_change) 196 = .ok (.getfield 55, 3) := by decide +kernel
theorem fR_change_199 : decode (m_cc M_R_change) 199 = .ok (.iload_n 1, 1) := by decide +kernel
theorem fR_change_200 : decode (m_cc M_R_change) 200 = .ok (.aload_n 0, 1) := by decide +kernel
theorem fR_change_201 : decode (m_cc M_R_change) 201 = .ok (.getfield 55, 3) := by decide +kernel
theorem fR_change_204 : decode (m_cc M_R_change) 204 = .ok (.iload_n 1, 1) := by decide +kernel
theorem fR_change_205 : decode (m_cc M_R_change) 205 = .ok (.iaload, 1) := by decide +kernel
theorem fR_change_206 : decode (m_cc M_R_change) 206 = .ok (.iload_n 3, 1) := by decide +kernel
theorem fR_change_207 : decode (m_cc M_R_change) 207 = .ok (.if_icmp .ge 12, 3) := by decide +kernel
theorem fR_change_210 : decode (m_cc M_R_change) 210 = .ok (.aload_n 0, 1) := by decide +kernel
theorem fR_change_211 : decode (m_cc M_R_change) 211 = .ok (.getfield 55, 3) := by decide +kernel
theorem fR_change_214 : decode (m_cc M_R_change) 214 = .ok (.iload_n 1, 1) := by decide +kernel
theorem fR_change_215 : decode (m_cc M_R_change) 215 = .ok (.iaload, 1) := by decide +kernel
theorem fR_change_216 : decode (m_cc M_R_change) 216 = .ok (.goto 4, 3) := by decide +kernel
theorem fR_change_219 : decode (m_cc M_R_change) 219 = .ok (.iload_n 3, 1) := by decide +kernel
theorem fR_change_220 : decode (m_cc M_R_change) 220 = .ok (.iastore, 1) := by decide +kernel
theorem fR_change_221 : decode (m_cc M_R_change) 221 = .ok (.goto 25, 3) := by decide +kernel
theorem fR_change_224 : decode (m_cc M_R_change) 224 = .ok (.iload_n 2, 1) := by decide +kernel
theorem fR_change_225 : decode (m_cc M_R_change) 225 = .ok (.iconst 1, 1) := by decide +kernel
theorem fR_change_226 : decode (m_cc M_R_change) 226 = .ok (.if_icmp .ne 13, 3) := by decide +kernel
theorem fR_change_229 : decode (m_cc M_R_change) 229 = .ok (.aload_n 0, 1) := by decide +kernel
theorem fR_change_230 : decode (m_cc M_R_change) 230 = .ok (.getfield 46, 3) := by decide +kernel
theorem fR_change_233 : decode (m_cc M_R_change) 233 = .ok (.iload_n 1, 1) := by decide +kernel
theorem fR_change_234 : decode (m_cc M_R_change) 234 = .ok (.iload_n 3, 1) := by decide +kernel
theorem fR_change_235 : decode (m_cc M_R_change) 235 = .ok (.iastore, 1) := by decide +kernel
theorem fR_change_236 : decode (m_cc M_R_change) 236 = .ok (.goto 10, 3) := by decide +kernel
theorem fR_change_239 : decode (m_cc M_R_change) 239 = .ok (.aload_n 0, 1) := by decide +kernel
theorem fR_change_240 : decode (m_cc M_R_change) 240 = .ok (.getfield 49, 3) := by decide +kernel
theorem fR_change_243 : decode (m_cc M_R_change) 243 = .ok (.iload_n 1, 1) := by decide +kernel
theorem fR_change_244 : decode (m_cc M_R_change) 244 = .ok (.iload_n 3, 1) := by decide +kernel
theorem fR_change_245 : decode (m_cc M_R_change) 245 = .ok (.iastore, 1) := by decide +kernel
theorem fR_change_246 : decode (m_cc M_R_change) 246 = .ok (.aload_n 0, 1) := by decide +kernel
theorem fR_change_247 : decode (m_cc M_R_change) 247 = .ok (.getfield 28, 3) := by decide +kernel
theorem fR_change_250 : decode (m_cc M_R_change) 250 = .ok (.iload 5, 2) := by decide +kernel
theorem fR_change_252 : decode (m_cc M_R_change) 252 = .ok (.dup2, 1) := by decide +kernel
theorem fR_change_253 : decode (m_cc M_R_change) 253 = .ok (.iaload, 1) := by decide +kernel
theorem fR_change_254 : decode (m_cc M_R_change) 254 = .ok (.iconst 1, 1) := by decide +kernel
theorem fR_change_255 : decode (m_cc M_R_change) 255 = .ok (.iadd, 1) := by decide +kernel
theorem fR_change_256 : decode (m_cc M_R_change) 256 = .ok (.iastore, 1) := by decide +kernel
theorem fR_change_257 : decode (m_cc M_R_change) 257 = .ok (.iconst 1, 1) := by decide +kernel
theorem fR_change_258 : decode (m_cc M_R_change) 258 = .ok (.ireturn, 1) := by decide +kernel
theorem fR_move_0 : decode (m_cc M_R_move) 0 = .ok (.aload_n 0, 1) := by decide +kernel
theorem fR_move_1 : decode (m_cc M_R_move) 1 = .ok (.aload_n 0, 1) := by decide +kernel
theorem fR_move_2 : decode (m_cc M_R_move) 2 = .ok (.iload_n 1, 1) := by decide +kernel
theorem fR_move_3 : decode (m_cc M_R_move) 3 = .ok (.invokevirtual 94, 3) := by decide +kernel
theorem fR_move_6 : decode (m_cc M_R_move) 6 = .ok (.ifCond .ne 7, 3) := by decide +kernel
theorem fR_move_9 : decode (m_cc M_R_move) 9 = .ok (.iconst 1, 1) := by decide +kernel
theorem fR_move_10 : decode (m_cc M_R_move) 10 = .ok (.goto 19, 3) := by decide +kernel
theorem fR_move_13 : decode (m_cc M_R_move) 13 = .ok (.iload_n 2, 1) := by decide +kernel
theorem fR_move_14 : decode (m_cc M_R_move) 14 = .ok (.iconst 0, 1) := by decide +kernel
theorem fR_move_15 : decode (m_cc M_R_move) 15 = .ok (.sipush 10000, 3) := by decide +kernel
theorem fR_move_18 : decode (m_cc M_R_move) 18 = .ok (.invokestatic 78, 3) := by decide +kernel
theorem fR_move_21 : decode (m_cc M_R_move) 21 = .ok (.ifCond .ne 7, 3) := by decide +kernel
theorem fR_move_24 : decode (m_cc M_R_move) 24 = .ok (.iconst 2, 1) := by decide +kernel
theorem fR_move_25 : decode (m_cc M_R_move) 25 = .ok (.goto 4, 3) := by decide +kernel
theorem fR_move_28 : decode (m_cc M_R_move) 28 = .ok (.iconst 0, 1) := by decide +kernel
theorem fR_move_29 : decode (m_cc M_R_move) 29 = .ok (.putfield 71, 3) := by decide +kernel
theorem fR_move_32 : decode (m_cc M_R_move) 32 = .ok (.aload_n 0, 1) := by decide +kernel
theorem fR_move_33 : decode (m_cc M_R_move) 33 = .ok (.getfield 71, 3) := by decide +kernel
theorem fR_move_36 : decode (m_cc M_R_move) 36 = .ok (.ifCond .gt 13, 3) := by decide +kernel
theorem fR_move_39 : decode (m_cc M_R_move) 39 = .ok (.aload_n 0, 1) := by decide +kernel
theorem fR_move_40 : decode (m_cc M_R_move) 40 = .ok (.getfield 22, 3) := by decide +kernel
theorem fR_move_43 : decode (m_cc M_R_move) 43 = .ok (.iload_n 1, 1) := by decide +kernel
theorem fR_move_44 : decode (m_cc M_R_move) 44 = .ok (.iaload, 1) := by decide +kernel
theorem fR_move_45 : decode (m_cc M_R_move) 45 = .ok (.iconst 4, 1) := by decide +kernel
theorem fR_move_46 : decode (m_cc M_R_move) 46 = .ok (.if_icmp .lt 5, 3) := by decide +kernel
theorem fR_move_49 : decode (m_cc M_R_move) 49 = .ok (.iconst 0, 1) := by decide +kernel
theorem fR_move_50 : decode (m_cc M_R_move) 50 = .ok (.ireturn, 1) := by decide +kernel
theorem fR_move_51 : decode (m_cc M_R_move) 51 = .ok (.aload_n 0, 1) := by decide +kernel
theorem fR_move_52 : decode (m_cc M_R_move) 52 = .ok (.getfield 19, 3) := by decide +kernel
theorem fR_move_55 : decode (m_cc M_R_move) 55 = .ok (.iload_n 1, 1) := by decide +kernel
theorem fR_move_56 : decode (m_cc M_R_move) 56 = .ok (.iload_n 2, 1) := by decide +kernel
theorem fR_move_57 : decode (m_cc M_R_move) 57 = .ok (.iastore, 1) := by decide +kernel
theorem fR_move_58 : decode (m_cc M_R_move) 58 = .ok (.aload_n 0, 1) := by decide +kernel
theorem fR_move_59 : decode (m_cc M_R_move) 59 = .ok (.getfield 28, 3) := by decide +kernel
theorem fR_move_62 : decode (m_cc M_R_move) 62 = .ok (.iload_n 1, 1) := by decide +kernel
theorem fR_move_63 : decode (m_cc M_R_move) 63 = .ok (.dup2, 1) := by decide +kernel
theorem fR_move_64 : decode (m_cc M_R_move) 64 = .ok (.iaload, 1) := by decide +kernel
theorem fR_move_65 : decode (m_cc M_R_move) 65 = .ok (.iconst 1, 1) := by decide +kernel
theorem fR_move_66 : decode (m_cc M_R_move) 66 = .ok (.iadd, 1) := by decide +kernel
theorem fR_move_67 : decode (m_cc M_R_move) 67 = .ok (.iastore, 1) := by decide +kernel
theorem fR_move_68 : decode (m_cc M_R_move) 68 = .ok (.iconst 1, 1) := by decide +kernel
theorem fR_move_69 : decode (m_cc M_R_move) 69 = .ok (.ireturn, 1) := by decide +kernel
theorem fR_cancel_0 : decode (m_cc M_R_cancel) 0 = .ok (.aload_n 0, 1) := by decide +kernel
theorem fR_cancel_1 : decode (m_cc M_R_cancel) 1 = .ok (.aload_n 0, 1) := by decide +kernel
theorem fR_cancel_2 : decode (m_cc M_R_cancel) 2 = .ok (.iload_n 1, 1) := by decide +kernel
theorem fR_cancel_3 : decode (m_cc M_R_cancel) 3 = .ok (.invokevirtual 101, 3) := by decide +kernel
theorem fR_cancel_6 : decode (m_cc M_R_cancel) 6 = .ok (.ifCond .ne 7, 3) := by decide +kernel
theorem fR_cancel_9 : decode (m_cc M_R_cancel) 9 = .ok (.iconst 1, 1) := by decide +kernel
theorem fR_cancel_10 : decode (m_cc M_R_cancel) 10 = .ok (.goto 4, 3) := by decide +kernel
theorem fR_cancel_13 : decode (m_cc M_R_cancel) 13 = .ok (.iconst 0, 1) := by decide +kernel
theorem fR_cancel_14 : decode (m_cc M_R_cancel) 14 = .ok (.putfield 71, 3) := by decide +kernel
theorem fR_cancel_17 : decode (m_cc M_R_cancel) 17 = .ok (.aload_n 0, 1) := by decide +kernel
theorem fR_cancel_18 : decode (m_cc M_R_cancel) 18 = .ok (.getfield 71, 3) := by decide +kernel
theorem fR_cancel_21 : decode (m_cc M_R_cancel) 21 = .ok (.ifCond .ne 36, 3) := by decide +kernel
theorem fR_cancel_24 : decode (m_cc M_R_cancel) 24 = .ok (.aload_n 0, 1) := by decide +kernel
theorem fR_cancel_25 : decode (m_cc M_R_cancel) 25 = .ok (.aload_n 0, 1) := by decide +kernel
theorem fR_cancel_26 : decode (m_cc M_R_cancel) 26 = .ok (.getfield 64, 3) := by decide +kernel
theorem fR_cancel_29 : decode (m_cc M_R_cancel) 29 = .ok (.iload_n 1, 1) := by decide +kernel
theorem fR_cancel_30 : decode (m_cc M_R_cancel) 30 = .ok (.baload, 1) := by decide +kernel
theorem fR_cancel_31 : decode (m_cc M_R_cancel) 31 = .ok (.ifCond .eq 18, 3) := by decide +kernel
theorem fR_cancel_34 : decode (m_cc M_R_cancel) 34 = .ok (.aload_n 0, 1) := by decide +kernel
theorem fR_cancel_35 : decode (m_cc M_R_cancel) 35 = .ok (.getfield 22, 3) := by decide +kernel
theorem fR_cancel_38 : decode (m_cc M_R_cancel) 38 = .ok (.aload_n 0, 1) := by decide +kernel
theorem fR_cancel_39 : decode (m_cc M_R_cancel) 39 = .ok (.getfield 40, 3) := by decide +kernel
theorem fR_cancel_42 : decode (m_cc M_R_cancel) 42 = .ok (.iload_n 1, 1) := by decide +kernel
theorem fR_cancel_43 : decode (m_cc M_R_cancel) 43 = .ok (.iaload, 1) := by decide +kernel
theorem fR_cancel_44 : decode (m_cc M_R_cancel) 44 = .ok (.iaload, 1) := by decide +kernel
theorem fR_cancel_45 : decode (m_cc M_R_cancel) 45 = .ok (.iconst 2, 1) := by decide +kernel
theorem fR_cancel_46 : decode (m_cc M_R_cancel) 46 = .ok (.if_icmp .le 7, 3) := by decide +kernel
theorem fR_cancel_49 : decode (m_cc M_R_cancel) 49 = .ok (.iconst 2, 1) := by decide +kernel
theorem fR_cancel_50 : decode (m_cc M_R_cancel) 50 = .ok (.goto 4, 3) := by decide +kernel
theorem fR_cancel_53 : decode (m_cc M_R_cancel) 53 = .ok (.iconst 0, 1) := by decide +kernel
theorem fR_cancel_54 : decode (m_cc M_R_cancel) 54 = .ok (.putfield 71, 3) := by decide +kernel
theorem fR_cancel_57 : decode (m_cc M_R_cancel) 57 = .ok (.aload_n 0, 1) := by decide +kernel
theorem fR_cancel_58 : decode (m_cc M_R_cancel) 58 = .ok (.getfield 71, 3) := by decide +kernel
theorem fR_cancel_61 : decode (m_cc M_R_cancel) 61 = .ok (.ifCond .le 5, 3) := by decide +kernel
theorem fR_cancel_64 : decode (m_cc M_R_cancel) 64 = .ok (.iconst 0, 1) := by decide +kernel
theorem fR_cancel_65 : decode (m_cc M_R_cancel) 65 = .ok (.ireturn, 1) := by decide +kernel
theorem fR_cancel_66 : decode (m_cc M_R_cancel) 66 = .ok (.aload_n 0, 1) := by decide +kernel
theorem fR_cancel_67 : decode (m_cc M_R_cancel) 67 = .ok (.getfield 55, 3) := by decide +kernel
theorem fR_cancel_70 : decode (m_cc M_R_cancel) 70 = .ok (.iload_n 1, 1) := by decide +kernel
theorem fR_cancel_71 : decode (m_cc M_R_cancel) 71 = .ok (.iaload, 1) := by decide +kernel
theorem fR_cancel_72 : decode (m_cc M_R_cancel) 72 = .ok (.istore_n 2, 1) := by decide +kernel
theorem fR_cancel_73 : decode (m_cc M_R_cancel) 73 = .ok (.aload_n 0, 1) := by decide +kernel
theorem fR_cancel_74 : decode (m_cc M_R_cancel) 74 = .ok (.getfield 64, 3) := by decide +kernel
theorem fR_cancel_77 : decode (m_cc M_R_cancel) 77 = .ok (.iload_n 1, 1) := by decide +kernel
theorem fR_cancel_78 : decode (m_cc M_R_cancel) 78 = .ok (.iconst 0, 1) := by decide +kernel
theorem fR_cancel_79 : decode (m_cc M_R_cancel) 79 = .ok (.bastore, 1) := by decide +kernel
theorem fR_cancel_80 : decode (m_cc M_R_cancel) 80 = .ok (.aload_n 0, 1) := by decide +kernel
theorem fR_cancel_81 : decode (m_cc M_R_cancel) 81 = .ok (.getfield 52, 3) := by decide +kernel
theorem fR_cancel_84 : decode (m_cc M_R_cancel) 84 = .ok (.iload_n 1, 1) := by decide +kernel
theorem fR_cancel_85 : decode (m_cc M_R_cancel) 85 = .ok (.iconst 0, 1) := by decide +kernel
theorem fR_cancel_86 : decode (m_cc M_R_cancel) 86 = .ok (.iastore, 1) := by decide +kernel
theorem fR_cancel_87 : decode (m_cc M_R_cancel) 87 = .ok (.aload_n 0, 1) := by decide +kernel
theorem fR_cancel_88 : decode (m_cc M_R_cancel) 88 = .ok (.getfield 55, 3) := by decide +kernel
theorem fR_cancel_91 : decode (m_cc M_R_cancel) 91 = .ok (.iload_n 1, 1) := by decide +kernel
theorem fR_cancel_92 : decode (m_cc M_R_cancel) 92 = .ok (.iconst 0, 1) := by decide +kernel
theorem fR_cancel_93 : decode (m_cc M_R_cancel) 93 = .ok (.iastore, 1) := by decide +kernel
theorem fR_cancel_94 : decode (m_cc M_R_cancel) 94 = .ok (.aload_n 0, 1) := by decide +kernel
theorem fR_cancel_95 : decode (m_cc M_R_cancel) 95 = .ok (.getfield 58, 3) := by decide +kernel
theorem fR_cancel_98 : decode (m_cc M_R_cancel) 98 = .ok (.iload_n 1, 1) := by decide +kernel
theorem fR_cancel_99 : decode (m_cc M_R_cancel) 99 = .ok (.iconst 0, 1) := by decide +kernel
theorem fR_cancel_100 : decode (m_cc M_R_cancel) 100 = .ok (.iastore, 1) := by decide +kernel
theorem fR_cancel_101 : decode (m_cc M_R_cancel) 101 = .ok (.aload_n 0, 1) := by decide +kernel
theorem fR_cancel_102 : decode (m_cc M_R_cancel) 102 = .ok (.getfield 28, 3) := by decide +kernel
theorem fR_cancel_105 : decode (m_cc M_R_cancel) 105 = .ok (.aload_n 0, 1) := by decide +kernel
theorem fR_cancel_106 : decode (m_cc M_R_cancel) 106 = .ok (.getfield 40, 3) := by decide +kernel
theorem fR_cancel_109 : decode (m_cc M_R_cancel) 109 = .ok (.iload_n 1, 1) := by decide +kernel
theorem fR_cancel_110 : decode (m_cc M_R_cancel) 110 = .ok (.iaload, 1) := by decide +kernel
theorem fR_cancel_111 : decode (m_cc M_R_cancel) 111 = .ok (.dup2, 1) := by decide +kernel
theorem fR_cancel_112 : decode (m_cc M_R_cancel) 112 = .ok (.iaload, 1) := by decide +kernel
theorem fR_cancel_113 : decode (m_cc M_R_cancel) 113 = .ok (.iconst 1, 1) := by decide +kernel
theorem fR_cancel_114 : decode (m_cc M_R_cancel) 114 = .ok (.iadd, 1) := by decide +kernel
theorem fR_cancel_115 : decode (m_cc M_R_cancel) 115 = .ok (.iastore, 1) := by decide +kernel
theorem fR_cancel_116 : decode (m_cc M_R_cancel) 116 = .ok (.aload_n 0, 1) := by decide +kernel
theorem fR_cancel_117 : decode (m_cc M_R_cancel) 117 = .ok (.aload_n 0, 1) := by decide +kernel
theorem fR_cancel_118 : decode (m_cc M_R_cancel) 118 = .ok (.getfield 40, 3) := by decide +kernel
theorem fR_cancel_121 : decode (m_cc M_R_cancel) 121 = .ok (.iload_n 1, 1) := by decide +kernel
theorem fR_cancel_122 : decode (m_cc M_R_cancel) 122 = .ok (.iaload, 1) := by decide +kernel
theorem fR_cancel_123 : decode (m_cc M_R_cancel) 123 = .ok (.invokevirtual 112, 3) := by decide +kernel
theorem fR_cancel_126 : decode (m_cc M_R_cancel) 126 = .ok (.ifCond .ne 16, 3) := by decide +kernel
theorem fR_cancel_129 : decode (m_cc M_R_cancel) 129 = .ok (.aload_n 0, 1) := by decide +kernel
theorem fR_cancel_130 : decode (m_cc M_R_cancel) 130 = .ok (.getfield 22, 3) := by decide +kernel
theorem fR_cancel_133 : decode (m_cc M_R_cancel) 133 = .ok (.aload_n 0, 1) := by decide +kernel
theorem fR_cancel_134 : decode (m_cc M_R_cancel) 134 = .ok (.getfield 40, 3) := by decide +kernel
theorem fR_cancel_137 : decode (m_cc M_R_cancel) 137 = .ok (.iload_n 1, 1) := by decide +kernel
theorem fR_cancel_138 : decode (m_cc M_R_cancel) 138 = .ok (.iaload, 1) := by decide +kernel
theorem fR_cancel_139 : decode (m_cc M_R_cancel) 139 = .ok (.bipush 6, 2) := by decide +kernel
theorem fR_cancel_141 : decode (m_cc M_R_cancel) 141 = .ok (.iastore, 1) := by decide +kernel
theorem fR_cancel_142 : decode (m_cc M_R_cancel) 142 = .ok (.iload_n 2, 1) := by decide +kernel
theorem fR_cancel_143 : decode (m_cc M_R_cancel) 143 = .ok (.ireturn, 1) := by decide +kernel
theorem fR_join_0 : decode (m_cc M_R_join) 0 = .ok (.aload_n 0, 1) := by decide +kernel
theorem fR_join_1 : decode (m_cc M_R_join) 1 = .ok (.aload_n 0, 1) := by decide +kernel
theorem fR_join_2 : decode (m_cc M_R_join) 2 = .ok (.iload_n 1, 1) := by decide +kernel
theorem fR_join_3 : decode (m_cc M_R_join) 3 = .ok (.invokevirtual 94, 3) := by decide +kernel
theorem fR_join_6 : decode (m_cc M_R_join) 6 = .ok (.ifCond .eq 11, 3) := by decide +kernel
theorem fR_join_9 : decode (m_cc M_R_join) 9 = .ok (.aload_n 0, 1) := by decide +kernel
theorem fR_join_10 : decode (m_cc M_R_join) 10 = .ok (.iload_n 2, 1) := by decide +kernel
theorem fR_join_11 : decode (m_cc M_R_join) 11 = .ok (.invokevirtual 94, 3) := by decide +kernel
theorem fR_join_14 : decode (m_cc M_R_join) 14 = .ok (.ifCond .ne 7, 3) := by decide +kernel
theorem fR_join_17 : decode (m_cc M_R_join) 17 = .ok (.iconst 1, 1) := by decide +kernel
theorem fR_join_18 : decode (m_cc M_R_join) 18 = .ok (.goto 4, 3) := by decide +kernel
theorem fR_join_21 : decode (m_cc M_R_join) 21 = .ok (.iconst 0, 1) := by decide +kernel
theorem fR_join_22 : decode (m_cc M_R_join) 22 = .ok (.putfield 71, 3) := by decide +kernel
theorem fR_join_25 : decode (m_cc M_R_join) 25 = .ok (.aload_n 0, 1) := by decide +kernel
theorem fR_join_26 : decode (m_cc M_R_join) 26 = .ok (.getfield 71, 3) := by decide +kernel
theorem fR_join_29 : decode (m_cc M_R_join) 29 = .ok (.ifCond .ne 64, 3) := by decide +kernel
theorem fR_join_32 : decode (m_cc M_R_join) 32 = .ok (.iload_n 1, 1) := by decide +kernel
theorem fR_join_33 : decode (m_cc M_R_join) 33 = .ok (.iload_n 2, 1) := by decide +kernel
theorem fR_join_34 : decode (m_cc M_R_join) 34 = .ok (.if_icmp .eq 54, 3) := by decide +kernel
theorem fR_join_37 : decode (m_cc M_R_join) 37 = .ok (.aload_n 0, 1) := by decide +kernel
theorem fR_join_38 : decode (m_cc M_R_join) 38 = .ok (.getfield 22, 3) := by decide +kernel
theorem fR_join_41 : decode (m_cc M_R_join) 41 = .ok (.iload_n 1, 1) := by decide +kernel
theorem fR_join_42 : decode (m_cc M_R_join) 42 = .ok (.iaload, 1) := by decide +kernel
theorem fR_join_43 : decode (m_cc M_R_join) 43 = .ok (.ifCond .ne 45, 3) := by decide +kernel
theorem fR_join_46 : decode (m_cc M_R_join) 46 = .ok (.aload_n 0, 1) := by decide +kernel
theorem fR_join_47 : decode (m_cc M_R_join) 47 = .ok (.getfield 22, 3) := by decide +kernel
theorem fR_join_50 : decode (m_cc M_R_join) 50 = .ok (.iload_n 2, 1) := by decide +kernel
theorem fR_join_51 : decode (m_cc M_R_join) 51 = .ok (.iaload, 1) := by decide +kernel
theorem fR_join_52 : decode (m_cc M_R_join) 52 = .ok (.ifCond .ne 36, 3) := by decide +kernel
theorem fR_join_55 : decode (m_cc M_R_join) 55 = .ok (.aload_n 0, 1) := by decide +kernel
theorem fR_join_56 : decode (m_cc M_R_join) 56 = .ok (.getfield 7, 3) := by decide +kernel
theorem fR_join_59 : decode (m_cc M_R_join) 59 = .ok (.iload_n 1, 1) := by decide +kernel
theorem fR_join_60 : decode (m_cc M_R_join) 60 = .ok (.iaload, 1) := by decide +kernel
theorem fR_join_61 : decode (m_cc M_R_join) 61 = .ok (.aload_n 0, 1) := by decide +kernel
theorem fR_join_62 : decode (m_cc M_R_join) 62 = .ok (.getfield 7, 3) := by decide +kernel
theorem fR_join_65 : decode (m_cc M_R_join) 65 = .ok (.iload_n 2, 1) := by decide +kernel
theorem fR_join_66 : decode (m_cc M_R_join) 66 = .ok (.iaload, 1) := by decide +kernel
theorem fR_join_67 : decode (m_cc M_R_join) 67 = .ok (.if_icmp .ne 21, 3) := by decide +kernel
theorem fR_join_70 : decode (m_cc M_R_join) 70 = .ok (.aload_n 0, 1) := by decide +kernel
theorem fR_join_71 : decode (m_cc M_R_join) 71 = .ok (.getfield 25, 3) := by decide +kernel
theorem fR_join_74 : decode (m_cc M_R_join) 74 = .ok (.iload_n 1, 1) := by decide +kernel
theorem fR_join_75 : decode (m_cc M_R_join) 75 = .ok (.iaload, 1) := by decide +kernel
theorem fR_join_76 : decode (m_cc M_R_join) 76 = .ok (.ifCond .ne 12, 3) := by decide +kernel
theorem fR_join_79 : decode (m_cc M_R_join) 79 = .ok (.aload_n 0, 1) := by decide +kernel
theorem fR_join_80 : decode (m_cc M_R_join) 80 = .ok (.getfield 25, 3) := by decide +kernel
theorem fR_join_83 : decode (m_cc M_R_join) 83 = .ok (.iload_n 2, 1) := by decide +kernel
theorem fR_join_84 : decode (m_cc M_R_join) 84 = .ok (.iaload, 1) := by decide +kernel
theorem fR_join_85 : decode (m_cc M_R_join) 85 = .ok (.ifCond .eq 8, 3) := by decide +kernel
theorem fR_join_88 : decode (m_cc M_R_join) 88 = .ok (.aload_n 0, 1) := by decide +kernel
theorem fR_join_89 : decode (m_cc M_R_join) 89 = .ok (.iconst 2, 1) := by decide +kernel
theorem fR_join_90 : decode (m_cc M_R_join) 90 = .ok (.putfield 71, 3) := by decide +kernel
theorem fR_join_93 : decode (m_cc M_R_join) 93 = .ok (.aload_n 0, 1) := by decide +kernel
theorem fR_join_94 : decode (m_cc M_R_join) 94 = .ok (.getfield 71, 3) := by decide +kernel
theorem fR_join_97 : decode (m_cc M_R_join) 97 = .ok (.ifCond .ne 26, 3) := by decide +kernel
theorem fR_join_100 : decode (m_cc M_R_join) 100 = .ok (.aload_n 0, 1) := by decide +kernel
theorem fR_join_101 : decode (m_cc M_R_join) 101 = .ok (.getfield 34, 3) := by decide +kernel
theorem fR_join_104 : decode (m_cc M_R_join) 104 = .ok (.iload_n 1, 1) := by decide +kernel
theorem fR_join_105 : decode (m_cc M_R_join) 105 = .ok (.iaload, 1) := by decide +kernel
theorem fR_join_106 : decode (m_cc M_R_join) 106 = .ok (.aload_n 0, 1) := by decide +kernel
theorem fR_join_107 : decode (m_cc M_R_join) 107 = .ok (.getfield 34, 3) := by decide +kernel
theorem fR_join_110 : decode (m_cc M_R_join) 110 = .ok (.iload_n 2, 1) := by decide +kernel
theorem fR_join_111 : decode (m_cc M_R_join) 111 = .ok (.iaload, 1) := by decide +kernel
theorem fR_join_112 : decode (m_cc M_R_join) 112 = .ok (.iadd, 1) := by decide +kernel
theorem fR_join_113 : decode (m_cc M_R_join) 113 = .ok (.bipush 8, 2) := by decide +kernel
theorem fR_join_115 : decode (m_cc M_R_join) 115 = .ok (.if_icmp .le 8, 3) := by decide +kernel
theorem fR_join_118 : decode (m_cc M_R_join) 118 = .ok (.aload_n 0, 1) := by decide +kernel
theorem fR_join_119 : decode (m_cc M_R_join) 119 = .ok (.iconst 3, 1) := by decide +kernel
theorem fR_join_120 : decode (m_cc M_R_join) 120 = .ok (.putfield 71, 3) := by decide +kernel
theorem fR_join_123 : decode (m_cc M_R_join) 123 = .ok (.aload_n 0, 1) := by decide +kernel
theorem fR_join_124 : decode (m_cc M_R_join) 124 = .ok (.getfield 71, 3) := by decide +kernel
theorem fR_join_127 : decode (m_cc M_R_join) 127 = .ok (.ifCond .le 4, 3) := by decide +kernel
theorem fR_join_130 : decode (m_cc M_R_join) 130 = .ok (.return_, 1) := by decide +kernel
theorem fR_join_131 : decode (m_cc M_R_join) 131 = .ok (.iconst 0, 1) := by decide +kernel
theorem fR_join_132 : decode (m_cc M_R_join) 132 = .ok (.istore_n 3, 1) := by decide +kernel
theorem fR_join_133 : decode (m_cc M_R_join) 133 = .ok (.iload_n 3, 1) := by decide +kernel
theorem fR_join_134 : decode (m_cc M_R_join) 134 = .ok (.aload_n 0, 1) := by decide +kernel
theorem fR_join_135 : decode (m_cc M_R_join) 135 = .ok (.getfield 34, 3) := by decide +kernel
theorem fR_join_138 : decode (m_cc M_R_join) 138 = .ok (.iload_n 2, 1) := by decide +kernel
theorem fR_join_139 : decode (m_cc M_R_join) 139 = .ok (.iaload, 1) := by decide +kernel
theorem fR_join_140 : decode (m_cc M_R_join) 140 = .ok (.if_icmp .ge 20, 3) := by decide +kernel
theorem fR_join_143 : decode (m_cc M_R_join) 143 = .ok (.aload_n 0, 1) := by decide +kernel
theorem fR_join_144 : decode (m_cc M_R_join) 144 = .ok (.iload_n 1, 1) := by decide +kernel
theorem fR_join_145 : decode (m_cc M_R_join) 145 = .ok (.aload_n 0, 1) := by decide +kernel
theorem fR_join_146 : decode (m_cc M_R_join) 146 = .ok (.iload_n 2, 1) := by decide +kernel
theorem fR_join_147 : decode (m_cc M_R_join) 147 = .ok (.iload_n 3, 1) := by decide +kernel
theorem fR_join_148 : decode (m_cc M_R_join) 148 = .ok (.invokevirtual 104, 3) := by decide +kernel
theorem fR_join_151 : decode (m_cc M_R_join) 151 = .ok (.invokevirtual 90, 3) := by decide +kernel
theorem fR_join_154 : decode (m_cc M_R_join) 154 = .ok (.iinc 3 1, 3) := by decide +kernel
theorem fR_join_157 : decode (m_cc M_R_join) 157 = .ok (.goto (-24), 3) := by decide +kernel
theorem fR_join_160 : decode (m_cc M_R_join) 160 = .ok (.aload_n 0, 1) := by decide +kernel
theorem fR_join_161 : decode (m_cc M_R_join) 161 = .ok (.getfield 34, 3) := by decide +kernel
theorem fR_join_164 : decode (m_cc M_R_join) 164 = .ok (.iload_n 2, 1) := by decide +kernel
theorem fR_join_165 : decode (m_cc M_R_join) 165 = .ok (.iconst 0, 1) := by decide +kernel
theorem fR_join_166 : decode (m_cc M_R_join) 166 = .ok (.iastore, 1) := by decide +kernel
theorem fR_join_167 : decode (m_cc M_R_join) 167 = .ok (.aload_n 0, 1) := by decide +kernel
theorem fR_join_168 : decode (m_cc M_R_join) 168 = .ok (.getfield 22, 3) := by decide +kernel
theorem fR_join_171 : decode (m_cc M_R_join) 171 = .ok (.iload_n 2, 1) := by decide +kernel
theorem fR_join_172 : decode (m_cc M_R_join) 172 = .ok (.bipush 7, 2) := by decide +kernel
theorem fR_join_174 : decode (m_cc M_R_join) 174 = .ok (.iastore, 1) := by decide +kernel
theorem fR_join_175 : decode (m_cc M_R_join) 175 = .ok (.aload_n 0, 1) := by decide +kernel
theorem fR_join_176 : decode (m_cc M_R_join) 176 = .ok (.getfield 31, 3) := by decide +kernel
theorem fR_join_179 : decode (m_cc M_R_join) 179 = .ok (.iload_n 2, 1) := by decide +kernel
theorem fR_join_180 : decode (m_cc M_R_join) 180 = .ok (.iload_n 1, 1) := by decide +kernel
theorem fR_join_181 : decode (m_cc M_R_join) 181 = .ok (.iastore, 1) := by decide +kernel
theorem fR_join_182 : decode (m_cc M_R_join) 182 = .ok (.aload_n 0, 1) := by decide +kernel
theorem fR_join_183 : decode (m_cc M_R_join) 183 = .ok (.getfield 28, 3) := by decide +kernel
theorem fR_join_186 : decode (m_cc M_R_join) 186 = .ok (.iload_n 1, 1) := by decide +kernel
theorem fR_join_187 : decode (m_cc M_R_join) 187 = .ok (.dup2, 1) := by decide +kernel
theorem fR_join_188 : decode (m_cc M_R_join) 188 = .ok (.iaload, 1) := by decide +kernel
theorem fR_join_189 : decode (m_cc M_R_join) 189 = .ok (.iconst 1, 1) := by decide +kernel
theorem fR_join_190 : decode (m_cc M_R_join) 190 = .ok (.iadd, 1) := by decide +kernel
theorem fR_join_191 : decode (m_cc M_R_join) 191 = .ok (.iastore, 1) := by decide +kernel
theorem fR_join_192 : decode (m_cc M_R_join) 192 = .ok (.aload_n 0, 1) := by decide +kernel
theorem fR_join_193 : decode (m_cc M_R_join) 193 = .ok (.getfield 28, 3) := by decide +kernel
theorem fR_join_196 : decode (m_cc M_R_join) 196 = .ok (.iload_n 2, 1) := by decide +kernel
theorem fR_join_197 : decode (m_cc M_R_join) 197 = .ok (.dup2, 1) := by decide +kernel
theorem fR_join_198 : decode (m_cc M_R_join) 198 = .ok (.iaload, 1) := by decide +kernel
theorem fR_join_199 : decode (m_cc M_R_join) 199 = .ok (.iconst 1, 1) := by decide +kernel
theorem fR_join_200 : decode (m_cc M_R_join) 200 = .ok (.iadd, 1) := by decide +kernel
theorem fR_join_201 : decode (m_cc M_R_join) 201 = .ok (.iastore, 1) := by decide +kernel
theorem fR_join_202 : decode (m_cc M_R_join) 202 = .ok (.return_, 1) := by decide +kernel
theorem fR_bits_0 : decode (m_cc M_R_bits) 0 = .ok (.iconst 0, 1) := by decide +kernel
theorem fR_bits_1 : decode (m_cc M_R_bits) 1 = .ok (.istore_n 1, 1) := by decide +kernel
theorem fR_bits_2 : decode (m_cc M_R_bits) 2 = .ok (.iconst 0, 1) := by decide +kernel
theorem fR_bits_3 : decode (m_cc M_R_bits) 3 = .ok (.istore_n 2, 1) := by decide +kernel
theorem fR_bits_4 : decode (m_cc M_R_bits) 4 = .ok (.iload_n 2, 1) := by decide +kernel
theorem fR_bits_5 : decode (m_cc M_R_bits) 5 = .ok (.bipush 8, 2) := by decide +kernel
theorem fR_bits_7 : decode (m_cc M_R_bits) 7 = .ok (.if_icmp .ge 17, 3) := by decide +kernel
theorem fR_bits_10 : decode (m_cc M_R_bits) 10 = .ok (.iload_n 1, 1) := by decide +kernel
theorem fR_bits_11 : decode (m_cc M_R_bits) 11 = .ok (.iload_n 0, 1) := by decide +kernel
theorem fR_bits_12 : decode (m_cc M_R_bits) 12 = .ok (.iload_n 2, 1) := by decide +kernel
theorem fR_bits_13 : decode (m_cc M_R_bits) 13 = .ok (.ishr, 1) := by decide +kernel
theorem fR_bits_14 : decode (m_cc M_R_bits) 14 = .ok (.iconst 1, 1) := by decide +kernel
theorem fR_bits_15 : decode (m_cc M_R_bits) 15 = .ok (.iand, 1) := by decide +kernel
theorem fR_bits_16 : decode (m_cc M_R_bits) 16 = .ok (.iadd, 1) := by decide +kernel
theorem fR_bits_17 : decode (m_cc M_R_bits) 17 = .ok (.istore_n 1, 1) := by decide +kernel
theorem fR_bits_18 : decode (m_cc M_R_bits) 18 = .ok (.iinc 2 1, 3) := by decide +kernel
theorem fR_bits_21 : decode (m_cc M_R_bits) 21 = .ok (.goto (-17), 3) := by decide +kernel
theorem fR_bits_24 : decode (m_cc M_R_bits) 24 = .ok (.iload_n 1, 1) := by decide +kernel
theorem fR_bits_25 : decode (m_cc M_R_bits) 25 = .ok (.ireturn, 1) := by decide +kernel
theorem fR_block_0 : decode (m_cc M_R_block) 0 = .ok (.aload_n 0, 1) := by decide +kernel
theorem fR_block_1 : decode (m_cc M_R_block) 1 = .ok (.aload_n 0, 1) := by decide +kernel
theorem fR_block_2 : decode (m_cc M_R_block) 2 = .ok (.iload_n 1, 1) := by decide +kernel
theorem fR_block_3 : decode (m_cc M_R_block) 3 = .ok (.invokevirtual 94, 3) := by decide +kernel
theorem fR_block_6 : decode (m_cc M_R_block) 6 = .ok (.ifCond .ne 7, 3) := by decide +kernel
theorem fR_block_9 : decode (m_cc M_R_block) 9 = .ok (.iconst 1, 1) := by decide +kernel
theorem fR_block_10 : decode (m_cc M_R_block) 10 = .ok (.goto 18, 3) := by decide +kernel
theorem fR_block_13 : decode (m_cc M_R_block) 13 = .ok (.iload_n 2, 1) := by decide +kernel
theorem fR_block_14 : decode (m_cc M_R_block) 14 = .ok (.iconst 0, 1) := by decide +kernel
theorem fR_block_15 : decode (m_cc M_R_block) 15 = .ok (.bipush 7, 2) := by decide +kernel
theorem fR_block_17 : decode (m_cc M_R_block) 17 = .ok (.invokestatic 78, 3) := by decide +kernel
theorem fR_block_20 : decode (m_cc M_R_block) 20 = .ok (.ifCond .ne 7, 3) := by decide +kernel
theorem fR_block_23 : decode (m_cc M_R_block) 23 = .ok (.iconst 2, 1) := by decide +kernel
theorem fR_block_24 : decode (m_cc M_R_block) 24 = .ok (.goto 4, 3) := by decide +kernel
theorem fR_block_27 : decode (m_cc M_R_block) 27 = .ok (.iconst 0, 1) := by decide +kernel
theorem fR_block_28 : decode (m_cc M_R_block) 28 = .ok (.putfield 71, 3) := by decide +kernel
theorem fR_block_31 : decode (m_cc M_R_block) 31 = .ok (.aload_n 0, 1) := by decide +kernel
theorem fR_block_32 : decode (m_cc M_R_block) 32 = .ok (.getfield 71, 3) := by decide +kernel
theorem fR_block_35 : decode (m_cc M_R_block) 35 = .ok (.ifCond .ne 44, 3) := by decide +kernel
theorem fR_block_38 : decode (m_cc M_R_block) 38 = .ok (.aload_n 0, 1) := by decide +kernel
theorem fR_block_39 : decode (m_cc M_R_block) 39 = .ok (.aload_n 0, 1) := by decide +kernel
theorem fR_block_40 : decode (m_cc M_R_block) 40 = .ok (.getfield 22, 3) := by decide +kernel
theorem fR_block_43 : decode (m_cc M_R_block) 43 = .ok (.iload_n 1, 1) := by decide +kernel
theorem fR_block_44 : decode (m_cc M_R_block) 44 = .ok (.iaload, 1) := by decide +kernel
theorem fR_block_45 : decode (m_cc M_R_block) 45 = .ok (.iconst 4, 1) := by decide +kernel
theorem fR_block_46 : decode (m_cc M_R_block) 46 = .ok (.if_icmp .ge 25, 3) := by decide +kernel
theorem fR_block_49 : decode (m_cc M_R_block) 49 = .ok (.aload_n 0, 1) := by decide +kernel
theorem fR_block_50 : decode (m_cc M_R_block) 50 = .ok (.getfield 25, 3) := by decide +kernel
theorem fR_block_53 : decode (m_cc M_R_block) 53 = .ok (.iload_n 1, 1) := by decide +kernel
theorem fR_block_54 : decode (m_cc M_R_block) 54 = .ok (.iaload, 1) := by decide +kernel
theorem fR_block_55 : decode (m_cc M_R_block) 55 = .ok (.iload_n 2, 1) := by decide +kernel
theorem fR_block_56 : decode (m_cc M_R_block) 56 = .ok (.ishr, 1) := by decide +kernel
theorem fR_block_57 : decode (m_cc M_R_block) 57 = .ok (.iconst 1, 1) := by decide +kernel
theorem fR_block_58 : decode (m_cc M_R_block) 58 = .ok (.iand, 1) := by decide +kernel
theorem fR_block_59 : decode (m_cc M_R_block) 59 = .ok (.iload_n 3, 1) := by decide +kernel
theorem fR_block_60 : decode (m_cc M_R_block) 60 = .ok (.ifCond .eq 7, 3) := by decide +kernel
theorem fR_block_63 : decode (m_cc M_R_block) 63 = .ok (.iconst 1, 1) := by decide +kernel
theorem fR_block_64 : decode (m_cc M_R_block) 64 = .ok (.goto 4, 3) := by decide +kernel
theorem fR_block_67 : decode (m_cc M_R_block) 67 = .ok (.iconst 0, 1) := by decide +kernel
theorem fR_block_68 : decode (m_cc M_R_block) 68 = .ok (.if_icmp .ne 7, 3) := by decide +kernel
theorem fR_block_71 : decode (m_cc M_R_block) 71 = .ok (.iconst 3, 1) := by decide +kernel
theorem fR_block_72 : decode (m_cc M_R_block) 72 = .ok (.goto 4, 3) := by decide +kernel
theorem fR_block_75 : decode (m_cc M_R_block) 75 = .ok (.iconst 0, 1) := by decide +kernel
theorem fR_block_76 : decode (m_cc M_R_block) 76 = .ok (.putfield 71, 3) := by decide +kernel
theorem fR_block_79 : decode (m_cc M_R_block) 79 = .ok (.aload_n 0, 1) := by decide +kernel
theorem fR_block_80 : decode (m_cc M_R_block) 80 = .ok (.getfield 71, 3) := by decide +kernel
theorem fR_block_83 : decode (m_cc M_R_block) 83 = .ok (.ifCond .le 5, 3) := by decide +kernel
theorem fR_block_86 : decode (m_cc M_R_block) 86 = .ok (.iconst 0, 1) := by decide +kernel
theorem fR_block_87 : decode (m_cc M_R_block) 87 = .ok (.ireturn, 1) := by decide +kernel
theorem fR_block_88 : decode (m_cc M_R_block) 88 = .ok (.aload_n 0, 1) := by decide +kernel
theorem fR_block_89 : decode (m_cc M_R_block) 89 = .ok (.getfield 25, 3) := by decide +kernel
theorem fR_block_92 : decode (m_cc M_R_block) 92 = .ok (.iload_n 1, 1) := by decide +kernel
theorem fR_block_93 : decode (m_cc M_R_block) 93 = .ok (.dup2, 1) := by decide +kernel
theorem fR_block_94 : decode (m_cc M_R_block) 94 = .ok (.iaload, 1) := by decide +kernel
theorem fR_block_95 : decode (m_cc M_R_block) 95 = .ok (.iconst 1, 1) := by decide +kernel
theorem fR_block_96 : decode (m_cc M_R_block) 96 = .ok (.iload_n 2, 1) := by decide +kernel
theorem fR_block_97 : decode (m_cc M_R_block) 97 = .ok (.ishl, 1) := by decide +kernel
theorem fR_block_98 : decode (m_cc M_R_block) 98 = .ok (.ixor, 1) := by decide +kernel
theorem fR_block_99 : decode (m_cc M_R_block) 99 = .ok (.iastore, 1) := by decide +kernel
theorem fR_block_100 : decode (m_cc M_R_block) 100 = .ok (.aload_n 0, 1) := by decide +kernel
theorem fR_block_101 : decode (m_cc M_R_block) 101 = .ok (.getfield 28, 3) := by decide +kernel
theorem fR_block_104 : decode (m_cc M_R_block) 104 = .ok (.iload_n 1, 1) := by decide +kernel
theorem fR_block_105 : decode (m_cc M_R_block) 105 = .ok (.dup2, 1) := by decide +kernel
theorem fR_block_106 : decode (m_cc M_R_block) 106 = .ok (.iaload, 1) := by decide +kernel
theorem fR_block_107 : decode (m_cc M_R_block) 107 = .ok (.iconst 1, 1) := by decide +kernel
theorem fR_block_108 : decode (m_cc M_R_block) 108 = .ok (.iadd, 1) := by decide +kernel
theorem fR_block_109 : decode (m_cc M_R_block) 109 = .ok (.iastore, 1) := by decide +kernel
theorem fR_block_110 : decode (m_cc M_R_block) 110 = .ok (.aload_n 0, 1) := by decide +kernel
theorem fR_block_111 : decode (m_cc M_R_block) 111 = .ok (.getfield 25, 3) := by decide +kernel
theorem fR_block_114 : decode (m_cc M_R_block) 114 = .ok (.iload_n 1, 1) := by decide +kernel
theorem fR_block_115 : decode (m_cc M_R_block) 115 = .ok (.iaload, 1) := by decide +kernel
theorem fR_block_116 : decode (m_cc M_R_block) 116 = .ok (.invokestatic 125, 3) := by decide +kernel
theorem fR_block_119 : decode (m_cc M_R_block) 119 = .ok (.ireturn, 1) := by decide +kernel
theorem fR_backorder_0 : decode (m_cc M_R_backorder) 0 = .ok (.aload_n 0, 1) := by decide +kernel
theorem fR_backorder_1 : decode (m_cc M_R_backorder) 1 = .ok (.aload_n 0, 1) := by decide +kernel
theorem fR_backorder_2 : decode (m_cc M_R_backorder) 2 = .ok (.iload_n 1, 1) := by decide +kernel
theorem fR_backorder_3 : decode (m_cc M_R_backorder) 3 = .ok (.invokevirtual 101, 3) := by decide +kernel
theorem fR_backorder_6 : decode (m_cc M_R_backorder) 6 = .ok (.ifCond .ne 7, 3) := by decide +kernel
theorem fR_backorder_9 : decode (m_cc M_R_backorder) 9 = .ok (.iconst 1, 1) := by decide +kernel
theorem fR_backorder_10 : decode (m_cc M_R_backorder) 10 = .ok (.goto 4, 3) := by decide +kernel
theorem fR_backorder_13 : decode (m_cc M_R_backorder) 13 = .ok (.iconst 0, 1) := by decide +kernel
theorem fR_backorder_14 : decode (m_cc M_R_backorder) 14 = .ok (.putfield 71, 3) := by decide +kernel
theorem fR_backorder_17 : decode (m_cc M_R_backorder) 17 = .ok (.aload_n 0, 1) := by decide +kernel
theorem fR_backorder_18 : decode (m_cc M_R_backorder) 18 = .ok (.getfield 71, 3) := by decide +kernel
theorem fR_backorder_21 : decode (m_cc M_R_backorder) 21 = .ok (.ifCond .ne 62, 3) := by decide +kernel
theorem fR_backorder_24 : decode (m_cc M_R_backorder) 24 = .ok (.aload_n 0, 1) := by decide +kernel
theorem fR_backorder_25 : decode (m_cc M_R_backorder) 25 = .ok (.aload_n 0, 1) := by decide +kernel
theorem fR_backorder_26 : decode (m_cc M_R_backorder) 26 = .ok (.getfield 22, 3) := by decide +kernel
theorem fR_backorder_29 : decode (m_cc M_R_backorder) 29 = .ok (.aload_n 0, 1) := by decide +kernel
theorem fR_backorder_30 : decode (m_cc M_R_backorder) 30 = .ok (.getfield 40, 3) := by decide +kernel
theorem fR_backorder_33 : decode (m_cc M_R_backorder) 33 = .ok (.iload_n 1, 1) := by decide +kernel
theorem fR_backorder_34 : decode (m_cc M_R_backorder) 34 = .ok (.iaload, 1) := by decide +kernel
theorem fR_backorder_35 : decode (m_cc M_R_backorder) 35 = .ok (.iaload, 1) := by decide +kernel
theorem fR_backorder_36 : decode (m_cc M_R_backorder) 36 = .ok (.iconst 4, 1) := by decide +kernel
theorem fR_backorder_37 : decode (m_cc M_R_backorder) 37 = .ok (.if_icmp .ne 38, 3) := by decide +kernel
theorem fR_backorder_40 : decode (m_cc M_R_backorder) 40 = .ok (.aload_n 0, 1) := by decide +kernel
theorem fR_backorder_41 : decode (m_cc M_R_backorder) 41 = .ok (.getfield 64, 3) := by decide +kernel
theorem fR_backorder_44 : decode (m_cc M_R_backorder) 44 = .ok (.iload_n 1, 1) := by decide +kernel
theorem fR_backorder_45 : decode (m_cc M_R_backorder) 45 = .ok (.baload, 1) := by decide +kernel
theorem fR_backorder_46 : decode (m_cc M_R_backorder) 46 = .ok (.ifCond .eq 29, 3) := by decide +kernel
theorem fR_backorder_49 : decode (m_cc M_R_backorder) 49 = .ok (.aload_n 0, 1) := by decide +kernel
theorem fR_backorder_50 : decode (m_cc M_R_backorder) 50 = .ok (.iload_n 1, 1) := by decide +kernel
theorem fR_backorder_51 : decode (m_cc M_R_backorder) 51 = .ok (.iconst 4, 1) := by decide +kernel
theorem fR_backorder_52 : decode (m_cc M_R_backorder) 52 = .ok (.invokevirtual 108, 3) := by decide +kernel
theorem fR_backorder_55 : decode (m_cc M_R_backorder) 55 = .ok (.ifCond .eq 20, 3) := by decide +kernel
theorem fR_backorder_58 : decode (m_cc M_R_backorder) 58 = .ok (.aload_n 0, 1) := by decide +kernel
theorem fR_backorder_59 : decode (m_cc M_R_backorder) 59 = .ok (.iload_n 1, 1) := by decide +kernel
theorem fR_backorder_60 : decode (m_cc M_R_backorder) 60 = .ok (.invokevirtual 119, 3) := by decide +kernel
theorem fR_backorder_63 : decode (m_cc M_R_backorder) 63 = .ok (.ifCond .eq 12, 3) := by decide +kernel
theorem fR_backorder_66 : decode (m_cc M_R_backorder) 66 = .ok (.aload_n 0, 1) := by decide +kernel
theorem fR_backorder_67 : decode (m_cc M_R_backorder) 67 = .ok (.getfield 68, 3) := by decide +kernel
theorem fR_backorder_70 : decode (m_cc M_R_backorder) 70 = .ok (.iload_n 1, 1) := by decide +kernel
theorem fR_backorder_71 : decode (m_cc M_R_backorder) 71 = .ok (.baload, 1) := by decide +kernel
theorem fR_backorder_72 : decode (m_cc M_R_backorder) 72 = .ok (.ifCond .eq 7, 3) := by decide +kernel
theorem fR_backorder_75 : decode (m_cc M_R_backorder) 75 = .ok (.iconst 2, 1) := by decide +kernel
theorem fR_backorder_76 : decode (m_cc M_R_backorder) 76 = .ok (.goto 4, 3) := by decide +kernel
theorem fR_backorder_79 : decode (m_cc M_R_backorder) 79 = .ok (.iconst 0, 1) := by decide +kernel
theorem fR_backorder_80 : decode (m_cc M_R_backorder) 80 = .ok (.putfield 71, 3) := by decide +kernel
theorem fR_backorder_83 : decode (m_cc M_R_backorder) 83 = .ok (.aload_n 0, 1) := by decide +kernel
theorem fR_backorder_84 : decode (m_cc M_R_backorder) 84 = .ok (.getfield 71, 3) := by decide +kernel
theorem fR_backorder_87 : decode (m_cc M_R_backorder) 87 = .ok (.ifCond .ne 30, 3) := by decide +kernel
theorem fR_backorder_90 : decode (m_cc M_R_backorder) 90 = .ok (.aload_n 0, 1) := by decide +kernel
theorem fR_backorder_91 : decode (m_cc M_R_backorder) 91 = .ok (.aload_n 0, 1) := by decide +kernel
theorem fR_backorder_92 : decode (m_cc M_R_backorder) 92 = .ok (.getfield 75, 3) := by decide +kernel
theorem fR_backorder_95 : decode (m_cc M_R_backorder) 95 = .ok (.bipush 20, 2) := by decide +kernel
theorem fR_backorder_97 : decode (m_cc M_R_backorder) 97 = .ok (.if_icmp .eq 12, 3) := by decide +kernel
theorem fR_backorder_100 : decode (m_cc M_R_backorder) 100 = .ok (.aload_n 0, 1) := by decide +kernel
theorem fR_backorder_101 : decode (m_cc M_R_backorder) 101 = .ok (.getfield 82, 3) := by decide +kernel
theorem fR_backorder_104 : decode (m_cc M_R_backorder) 104 = .ok (.bipush 60, 2) := by decide +kernel
theorem fR_backorder_106 : decode (m_cc M_R_backorder) 106 = .ok (.if_icmp .ne 7, 3) := by decide +kernel
theorem fR_backorder_109 : decode (m_cc M_R_backorder) 109 = .ok (.iconst 3, 1) := by decide +kernel
theorem fR_backorder_110 : decode (m_cc M_R_backorder) 110 = .ok (.goto 4, 3) := by decide +kernel
theorem fR_backorder_113 : decode (m_cc M_R_backorder) 113 = .ok (.iconst 0, 1) := by decide +kernel
theorem fR_backorder_114 : decode (m_cc M_R_backorder) 114 = .ok (.putfield 71, 3) := by decide +kernel
theorem fR_backorder_117 : decode (m_cc M_R_backorder) 117 = .ok (.aload_n 0, 1) := by decide +kernel
theorem fR_backorder_118 : decode (m_cc M_R_backorder) 118 = .ok (.getfield 71, 3) := by decide +kernel
theorem fR_backorder_121 : decode (m_cc M_R_backorder) 121 = .ok (.ifCond .le 5, 3) := by decide +kernel
theorem fR_backorder_124 : decode (m_cc M_R_backorder) 124 = .ok (.iconst 0, 1) := by decide +kernel
theorem fR_backorder_125 : decode (m_cc M_R_backorder) 125 = .ok (.ireturn, 1) := by decide +kernel
theorem fR_backorder_126 : decode (m_cc M_R_backorder) 126 = .ok (.aload_n 0, 1) := by decide +kernel
theorem fR_backorder_127 : decode (m_cc M_R_backorder) 127 = .ok (.getfield 40, 3) := by decide +kernel
theorem fR_backorder_130 : decode (m_cc M_R_backorder) 130 = .ok (.iload_n 1, 1) := by decide +kernel
theorem fR_backorder_131 : decode (m_cc M_R_backorder) 131 = .ok (.iaload, 1) := by decide +kernel
theorem fR_backorder_132 : decode (m_cc M_R_backorder) 132 = .ok (.istore_n 2, 1) := by decide +kernel
theorem fR_backorder_133 : decode (m_cc M_R_backorder) 133 = .ok (.aload_n 0, 1) := by decide +kernel
theorem fR_backorder_134 : decode (m_cc M_R_backorder) 134 = .ok (.getfield 68, 3) := by decide +kernel
theorem fR_backorder_137 : decode (m_cc M_R_backorder) 137 = .ok (.iload_n 1, 1) := by decide +kernel
theorem fR_backorder_138 : decode (m_cc M_R_backorder) 138 = .ok (.iconst 1, 1) := by decide +kernel
theorem fR_backorder_139 : decode (m_cc M_R_backorder) 139 = .ok (.bastore, 1) := by decide +kernel
theorem fR_backorder_140 : decode (m_cc M_R_backorder) 140 = .ok (.aload_n 0, 1) := by decide +kernel
theorem fR_backorder_141 : decode (m_cc M_R_backorder) 141 = .ok (.aload_n 0, 1) := by decide +kernel
theorem fR_backorder_142 : decode (m_cc M_R_backorder) 142 = .ok (.aload_n 0, 1) := by decide +kernel
theorem fR_backorder_143 : decode (m_cc M_R_backorder) 143 = .ok (.getfield 7, 3) := by decide +kernel
theorem fR_backorder_146 : decode (m_cc M_R_backorder) 146 = .ok (.iload_n 2, 1) := by decide +kernel
theorem fR_backorder_147 : decode (m_cc M_R_backorder) 147 = .ok (.iaload, 1) := by decide +kernel
theorem fR_backorder_148 : decode (m_cc M_R_backorder) 148 = .ok (.iconst 0, 1) := by decide +kernel
theorem fR_backorder_149 : decode (m_cc M_R_backorder) 149 = .ok (.aload_n 0, 1) := by decide +kernel
theorem fR_backorder_150 : decode (m_cc M_R_backorder) 150 = .ok (.getfield 16, 3) := by decide +kernel
theorem fR_backorder_153 : decode (m_cc M_R_backorder) 153 = .ok (.iload_n 2, 1) := by decide +kernel
theorem fR_backorder_154 : decode (m_cc M_R_backorder) 154 = .ok (.iaload, 1) := by decide +kernel
theorem fR_backorder_155 : decode (m_cc M_R_backorder) 155 = .ok (.aload_n 0, 1) := by decide +kernel
theorem fR_backorder_156 : decode (m_cc M_R_backorder) 156 = .ok (.getfield 19, 3) := by decide +kernel
theorem fR_backorder_159 : decode (m_cc M_R_backorder) 159 = .ok (.iload_n 2, 1) := by decide +kernel
theorem fR_backorder_160 : decode (m_cc M_R_backorder) 160 = .ok (.iaload, 1) := by decide +kernel
theorem fR_backorder_161 : decode (m_cc M_R_backorder) 161 = .ok (.invokevirtual 86, 3) := by decide +kernel
theorem fR_backorder_164 : decode (m_cc M_R_backorder) 164 = .ok (.aload_n 0, 1) := by decide +kernel
theorem fR_backorder_165 : decode (m_cc M_R_backorder) 165 = .ok (.getfield 43, 3) := by decide +kernel
theorem fR_backorder_168 : decode (m_cc M_R_backorder) 168 = .ok (.iload_n 1, 1) := by decide +kernel
theorem fR_backorder_169 : decode (m_cc M_R_backorder) 169 = .ok (.iaload, 1) := by decide +kernel
theorem fR_backorder_170 : decode (m_cc M_R_backorder) 170 = .ok (.aload_n 0, 1) := by decide +kernel
theorem fR_backorder_171 : decode (m_cc M_R_backorder) 171 = .ok (.iload_n 1, 1) := by decide +kernel
theorem fR_backorder_172 : decode (m_cc M_R_backorder) 172 = .ok (.invokevirtual 119, 3) := by decide +kernel
theorem fR_backorder_175 : decode (m_cc M_R_backorder) 175 = .ok (.aload_n 0, 1) := by decide +kernel
theorem fR_backorder_176 : decode (m_cc M_R_backorder) 176 = .ok (.getfield 49, 3) := by decide +kernel
theorem fR_backorder_179 : decode (m_cc M_R_backorder) 179 = .ok (.iload_n 1, 1) := by decide +kernel
theorem fR_backorder_180 : decode (m_cc M_R_backorder) 180 = .ok (.iaload, 1) := by decide +kernel
theorem fR_backorder_181 : decode (m_cc M_R_backorder) 181 = .ok (.invokevirtual 98, 3) := by decide +kernel
theorem fR_backorder_184 : decode (m_cc M_R_backorder) 184 = .ok (.ireturn, 1) := by decide +kernel
theorem fR_isBefore_0 : decode (m_cc M_R_isBefore) 0 = .ok (.aload_n 0, 1) := by decide +kernel
theorem fR_isBefore_1 : decode (m_cc M_R_isBefore) 1 = .ok (.getfield 16, 3) := by decide +kernel
theorem fR_isBefore_4 : decode (m_cc M_R_isBefore) 4 = .ok (.iload_n 1, 1) := by decide +kernel
theorem fR_isBefore_5 : decode (m_cc M_R_isBefore) 5 = .ok (.iaload, 1) := by decide +kernel
theorem fR_isBefore_6 : decode (m_cc M_R_isBefore) 6 = .ok (.aload_n 0, 1) := by decide +kernel
theorem fR_isBefore_7 : decode (m_cc M_R_isBefore) 7 = .ok (.getfield 16, 3) := by decide +kernel
theorem fR_isBefore_10 : decode (m_cc M_R_isBefore) 10 = .ok (.iload_n 2, 1) := by decide +kernel
theorem fR_isBefore_11 : decode (m_cc M_R_isBefore) 11 = .ok (.iaload, 1) := by decide +kernel
theorem fR_isBefore_12 : decode (m_cc M_R_isBefore) 12 = .ok (.if_icmp .eq 24, 3) := by decide +kernel
theorem fR_isBefore_15 : decode (m_cc M_R_isBefore) 15 = .ok (.aload_n 0, 1) := by decide +kernel
theorem fR_isBefore_16 : decode (m_cc M_R_isBefore) 16 = .ok (.getfield 16, 3) := by decide +kernel
theorem fR_isBefore_19 : decode (m_cc M_R_isBefore) 19 = .ok (.iload_n 1, 1) := by decide +kernel
theorem fR_isBefore_20 : decode (m_cc M_R_isBefore) 20 = .ok (.iaload, 1) := by decide +kernel
theorem fR_isBefore_21 : decode (m_cc M_R_isBefore) 21 = .ok (.aload_n 0, 1) := by decide +kernel
theorem fR_isBefore_22 : decode (m_cc M_R_isBefore) 22 = .ok (.getfield 16, 3) := by decide +kernel
theorem fR_isBefore_25 : decode (m_cc M_R_isBefore) 25 = .ok (.iload_n 2, 1) := by decide +kernel
theorem fR_isBefore_26 : decode (m_cc M_R_isBefore) 26 = .ok (.iaload, 1) := by decide +kernel
theorem fR_isBefore_27 : decode (m_cc M_R_isBefore) 27 = .ok (.if_icmp .ge 7, 3) := by decide +kernel
theorem fR_isBefore_30 : decode (m_cc M_R_isBefore) 30 = .ok (.iconst 1, 1) := by decide +kernel
theorem fR_isBefore_31 : decode (m_cc M_R_isBefore) 31 = .ok (.goto 4, 3) := by decide +kernel
theorem fR_isBefore_34 : decode (m_cc M_R_isBefore) 34 = .ok (.iconst 0, 1) := by decide +kernel
theorem fR_isBefore_35 : decode (m_cc M_R_isBefore) 35 = .ok (.ireturn, 1) := by decide +kernel
theorem fR_isBefore_36 : decode (m_cc M_R_isBefore) 36 = .ok (.aload_n 0, 1) := by decide +kernel
theorem fR_isBefore_37 : decode (m_cc M_R_isBefore) 37 = .ok (.getfield 19, 3) := by decide +kernel
theorem fR_isBefore_40 : decode (m_cc M_R_isBefore) 40 = .ok (.iload_n 1, 1) := by decide +kernel
theorem fR_isBefore_41 : decode (m_cc M_R_isBefore) 41 = .ok (.iaload, 1) := by decide +kernel
theorem fR_isBefore_42 : decode (m_cc M_R_isBefore) 42 = .ok (.aload_n 0, 1) := by decide +kernel
theorem fR_isBefore_43 : decode (m_cc M_R_isBefore) 43 = .ok (.getfield 19, 3) := by decide +kernel
theorem fR_isBefore_46 : decode (m_cc M_R_isBefore) 46 = .ok (.iload_n 2, 1) := by decide +kernel
theorem fR_isBefore_47 : decode (m_cc M_R_isBefore) 47 = .ok (.iaload, 1) := by decide +kernel
theorem fR_isBefore_48 : decode (m_cc M_R_isBefore) 48 = .ok (.if_icmp .eq 26, 3) := by decide +kernel
theorem fR_isBefore_51 : decode (m_cc M_R_isBefore) 51 = .ok (.aload_n 0, 1) := by decide +kernel
theorem fR_isBefore_52 : decode (m_cc M_R_isBefore) 52 = .ok (.getfield 19, 3) := by decide +kernel
theorem fR_isBefore_55 : decode (m_cc M_R_isBefore) 55 = .ok (.iload_n 1, 1) := by decide +kernel
theorem fR_isBefore_56 : decode (m_cc M_R_isBefore) 56 = .ok (.iaload, 1) := by decide +kernel
theorem fR_isBefore_57 : decode (m_cc M_R_isBefore) 57 = .ok (.aload_n 0, 1) := by decide +kernel
theorem fR_isBefore_58 : decode (m_cc M_R_isBefore) 58 = .ok (.getfield 19, 3) := by decide +kernel
theorem fR_isBefore_61 : decode (m_cc M_R_isBefore) 61 = .ok (.iload_n 2, 1) := by decide +kernel
theorem fR_isBefore_62 : decode (m_cc M_R_isBefore) 62 = .ok (.iaload, 1) := by decide +kernel
theorem fR_isBefore_63 : decode (m_cc M_R_isBefore) 63 = .ok (.if_icmp .ge 7, 3) := by decide +kernel
theorem fR_isBefore_66 : decode (m_cc M_R_isBefore) 66 = .ok (.iconst 1, 1) := by decide +kernel
theorem fR_isBefore_67 : decode (m_cc M_R_isBefore) 67 = .ok (.goto 17, 3) := by decide +kernel
theorem fR_isBefore_70 : decode (m_cc M_R_isBefore) 70 = .ok (.iconst 0, 1) := by decide +kernel
theorem fR_isBefore_71 : decode (m_cc M_R_isBefore) 71 = .ok (.goto 13, 3) := by decide +kernel
theorem fR_isBefore_74 : decode (m_cc M_R_isBefore) 74 = .ok (.iload_n 1, 1) := by decide +kernel
theorem fR_isBefore_75 : decode (m_cc M_R_isBefore) 75 = .ok (.iload_n 2, 1) := by decide +kernel
theorem fR_isBefore_76 : decode (m_cc M_R_isBefore) 76 = .ok (.if_icmp .ge 7, 3) := by decide +kernel
theorem fR_isBefore_79 : decode (m_cc M_R_isBefore) 79 = .ok (.iconst 1, 1) := by decide +kernel
theorem fR_isBefore_80 : decode (m_cc M_R_isBefore) 80 = .ok (.goto 4, 3) := by decide +kernel
theorem fR_isBefore_83 : decode (m_cc M_R_isBefore) 83 = .ok (.iconst 0, 1) := by decide +kernel
theorem fR_isBefore_84 : decode (m_cc M_R_isBefore) 84 = .ok (.ireturn, 1) := by decide +kernel
theorem fR_isWaiting_0 : decode (m_cc M_R_isWaiting) 0 = .ok (.aload_n 0, 1) := by decide +kernel
theorem fR_isWaiting_1 : decode (m_cc M_R_isWaiting) 1 = .ok (.getfield 22, 3) := by decide +kernel
theorem fR_isWaiting_4 : decode (m_cc M_R_isWaiting) 4 = .ok (.iload_n 1, 1) := by decide +kernel
theorem fR_isWaiting_5 : decode (m_cc M_R_isWaiting) 5 = .ok (.iaload, 1) := by decide +kernel
theorem fR_isWaiting_6 : decode (m_cc M_R_isWaiting) 6 = .ok (.iconst 1, 1) := by decide +kernel
theorem fR_isWaiting_7 : decode (m_cc M_R_isWaiting) 7 = .ok (.if_icmp .gt 16, 3) := by decide +kernel
theorem fR_isWaiting_10 : decode (m_cc M_R_isWaiting) 10 = .ok (.aload_n 0, 1) := by decide +kernel
theorem fR_isWaiting_11 : decode (m_cc M_R_isWaiting) 11 = .ok (.getfield 25, 3) := by decide +kernel
theorem fR_isWaiting_14 : decode (m_cc M_R_isWaiting) 14 = .ok (.iload_n 1, 1) := by decide +kernel
theorem fR_isWaiting_15 : decode (m_cc M_R_isWaiting) 15 = .ok (.iaload, 1) := by decide +kernel
theorem fR_isWaiting_16 : decode (m_cc M_R_isWaiting) 16 = .ok (.ifCond .ne 7, 3) := by decide +kernel
theorem fR_isWaiting_19 : decode (m_cc M_R_isWaiting) 19 = .ok (.iconst 1, 1) := by decide +kernel
theorem fR_isWaiting_20 : decode (m_cc M_R_isWaiting) 20 = .ok (.goto 4, 3) := by decide +kernel
theorem fR_isWaiting_23 : decode (m_cc M_R_isWaiting) 23 = .ok (.iconst 0, 1) := by decide +kernel
theorem fR_isWaiting_24 : decode (m_cc M_R_isWaiting) 24 = .ok (.ireturn, 1) := by decide +kernel
theorem fR_ready_0 : decode (m_cc M_R_ready) 0 = .ok (.aload_n 0, 1) := by decide +kernel
theorem fR_ready_1 : decode (m_cc M_R_ready) 1 = .ok (.iload_n 1, 1) := by decide +kernel
theorem fR_ready_2 : decode (m_cc M_R_ready) 2 = .ok (.ifCond .ge 7, 3) := by decide +kernel
theorem fR_ready_5 : decode (m_cc M_R_ready) 5 = .ok (.iconst 1, 1) := by decide +kernel
theorem fR_ready_6 : decode (m_cc M_R_ready) 6 = .ok (.goto 4, 3) := by decide +kernel
theorem fR_ready_9 : decode (m_cc M_R_ready) 9 = .ok (.iconst 0, 1) := by decide +kernel
theorem fR_ready_10 : decode (m_cc M_R_ready) 10 = .ok (.putfield 71, 3) := by decide +kernel
theorem fR_ready_13 : decode (m_cc M_R_ready) 13 = .ok (.iconst 0, 1) := by decide +kernel
theorem fR_ready_14 : decode (m_cc M_R_ready) 14 = .ok (.istore_n 2, 1) := by decide +kernel
theorem fR_ready_15 : decode (m_cc M_R_ready) 15 = .ok (.iload_n 2, 1) := by decide +kernel
theorem fR_ready_16 : decode (m_cc M_R_ready) 16 = .ok (.aload_n 0, 1) := by decide +kernel
theorem fR_ready_17 : decode (m_cc M_R_ready) 17 = .ok (.getfield 75, 3) := by decide +kernel
theorem fR_ready_20 : decode (m_cc M_R_ready) 20 = .ok (.if_icmp .ge 81, 3) := by decide +kernel
theorem fR_ready_23 : decode (m_cc M_R_ready) 23 = .ok (.aload_n 0, 1) := by decide +kernel
theorem fR_ready_24 : decode (m_cc M_R_ready) 24 = .ok (.getfield 71, 3) := by decide +kernel
theorem fR_ready_27 : decode (m_cc M_R_ready) 27 = .ok (.ifCond .ne 74, 3) := by decide +kernel
theorem fR_ready_30 : decode (m_cc M_R_ready) 30 = .ok (.aload_n 0, 1) := by decide +kernel
theorem fR_ready_31 : decode (m_cc M_R_ready) 31 = .ok (.iload_n 2, 1) := by decide +kernel
theorem fR_ready_32 : decode (m_cc M_R_ready) 32 = .ok (.invokevirtual 128, 3) := by decide +kernel
theorem fR_ready_35 : decode (m_cc M_R_ready) 35 = .ok (.ifCond .ne 6, 3) := by decide +kernel
theorem fR_ready_38 : decode (m_cc M_R_ready) 38 = .ok (.goto 57, 3) := by decide +kernel
theorem fR_ready_41 : decode (m_cc M_R_ready) 41 = .ok (.iconst 0, 1) := by decide +kernel
theorem fR_ready_42 : decode (m_cc M_R_ready) 42 = .ok (.istore_n 3, 1) := by decide +kernel
theorem fR_ready_43 : decode (m_cc M_R_ready) 43 = .ok (.iconst 0, 1) := by decide +kernel
theorem fR_ready_44 : decode (m_cc M_R_ready) 44 = .ok (.istore 4, 2) := by decide +kernel
theorem fR_ready_46 : decode (m_cc M_R_ready) 46 = .ok (.iload 4, 2) := by decide +kernel
theorem fR_ready_48 : decode (m_cc M_R_ready) 48 = .ok (.aload_n 0, 1) := by decide +kernel
theorem fR_ready_49 : decode (m_cc M_R_ready) 49 = .ok (.getfield 75, 3) := by decide +kernel
theorem fR_ready_52 : decode (m_cc M_R_ready) 52 = .ok (.if_icmp .ge 36, 3) := by decide +kernel
theorem fR_ready_55 : decode (m_cc M_R_ready) 55 = .ok (.iload_n 3, 1) := by decide +kernel
theorem fR_ready_56 : decode (m_cc M_R_ready) 56 = .ok (.aload_n 0, 1) := by decide +kernel
theorem fR_ready_57 : decode (m_cc M_R_ready) 57 = .ok (.iload 4, 2) := by decide +kernel
theorem fR_ready_59 : decode (m_cc M_R_ready) 59 = .ok (.invokevirtual 128, 3) := by decide +kernel
theorem fR_ready_62 : decode (m_cc M_R_ready) 62 = .ok (.ifCond .eq 17, 3) := by decide +kernel
theorem fR_ready_65 : decode (m_cc M_R_ready) 65 = .ok (.aload_n 0, 1) := by decide +kernel
theorem fR_ready_66 : decode (m_cc M_R_ready) 66 = .ok (.iload 4, 2) := by decide +kernel
theorem fR_ready_68 : decode (m_cc M_R_ready) 68 = .ok (.iload_n 2, 1) := by decide +kernel
theorem fR_ready_69 : decode (m_cc M_R_ready) 69 = .ok (.invokevirtual 131, 3) := by decide +kernel
theorem fR_ready_72 : decode (m_cc M_R_ready) 72 = .ok (.ifCond .eq 7, 3) := by decide +kernel
theorem fR_ready_75 : decode (m_cc M_R_ready) 75 = .ok (.iconst 1, 1) := by decide +kernel
theorem fR_ready_76 : decode (m_cc M_R_ready) 76 = .ok (.goto 4, 3) := by decide +kernel
theorem fR_ready_79 : decode (m_cc M_R_ready) 79 = .ok (.iconst 0, 1) := by decide +kernel
theorem fR_ready_80 : decode (m_cc M_R_ready) 80 = .ok (.iadd, 1) := by decide +kernel
theorem fR_ready_81 : decode (m_cc M_R_ready) 81 = .ok (.istore_n 3, 1) := by decide +kernel
theorem fR_ready_82 : decode (m_cc M_R_ready) 82 = .ok (.iinc 4 1, 3) := by decide +kernel
theorem fR_ready_85 : decode (m_cc M_R_ready) 85 = .ok (.goto (-39), 3) := by decide +kernel
theorem fR_ready_88 : decode (m_cc M_R_ready) 88 = .ok (.iload_n 3, 1) := by decide +kernel
theorem fR_ready_89 : decode (m_cc M_R_ready) 89 = .ok (.iload_n 1, 1) := by decide +kernel
theorem fR_ready_90 : decode (m_cc M_R_ready) 90 = .ok (.if_icmp .ne 5, 3) := by decide +kernel
theorem fR_ready_93 : decode (m_cc M_R_ready) 93 = .ok (.iload_n 2, 1) := by decide +kernel
theorem fR_ready_94 : decode (m_cc M_R_ready) 94 = .ok (.ireturn, 1) := by decide +kernel
theorem fR_ready_95 : decode (m_cc M_R_ready) 95 = .ok (.iinc 2 1, 3) := by decide +kernel
theorem fR_ready_98 : decode (m_cc M_R_ready) 98 = .ok (.goto (-83), 3) := by decide +kernel
theorem fR_ready_101 : decode (m_cc M_R_ready) 101 = .ok (.aload_n 0, 1) := by decide +kernel
theorem fR_ready_102 : decode (m_cc M_R_ready) 102 = .ok (.getfield 71, 3) := by decide +kernel
theorem fR_ready_105 : decode (m_cc M_R_ready) 105 = .ok (.ifCond .le 7, 3) := by decide +kernel
theorem fR_ready_108 : decode (m_cc M_R_ready) 108 = .ok (.iconst 0, 1) := by decide +kernel
theorem fR_ready_109 : decode (m_cc M_R_ready) 109 = .ok (.goto 4, 3) := by decide +kernel
theorem fR_ready_112 : decode (m_cc M_R_ready) 112 = .ok (.iconst (-1), 1) := by decide +kernel
theorem fR_ready_113 : decode (m_cc M_R_ready) 113 = .ok (.ireturn, 1) := by decide +kernel
theorem fR_told_0 : decode (m_cc M_R_told) 0 = .ok (.aload_n 0, 1) := by decide +kernel
theorem fR_told_1 : decode (m_cc M_R_told) 1 = .ok (.aload_n 0, 1) := by decide +kernel
theorem fR_told_2 : decode (m_cc M_R_told) 2 = .ok (.iload_n 1, 1) := by decide +kernel
theorem fR_told_3 : decode (m_cc M_R_told) 3 = .ok (.invokevirtual 94, 3) := by decide +kernel
theorem fR_told_6 : decode (m_cc M_R_told) 6 = .ok (.ifCond .ne 7, 3) := by decide +kernel
theorem fR_told_9 : decode (m_cc M_R_told) 9 = .ok (.iconst 1, 1) := by decide +kernel
theorem fR_told_10 : decode (m_cc M_R_told) 10 = .ok (.goto 18, 3) := by decide +kernel
theorem fR_told_13 : decode (m_cc M_R_told) 13 = .ok (.iload_n 2, 1) := by decide +kernel
theorem fR_told_14 : decode (m_cc M_R_told) 14 = .ok (.iconst 0, 1) := by decide +kernel
theorem fR_told_15 : decode (m_cc M_R_told) 15 = .ok (.bipush 9, 2) := by decide +kernel
theorem fR_told_17 : decode (m_cc M_R_told) 17 = .ok (.invokestatic 78, 3) := by decide +kernel
theorem fR_told_20 : decode (m_cc M_R_told) 20 = .ok (.ifCond .ne 7, 3) := by decide +kernel
theorem fR_told_23 : decode (m_cc M_R_told) 23 = .ok (.iconst 2, 1) := by decide +kernel
theorem fR_told_24 : decode (m_cc M_R_told) 24 = .ok (.goto 4, 3) := by decide +kernel
theorem fR_told_27 : decode (m_cc M_R_told) 27 = .ok (.iconst 0, 1) := by decide +kernel
theorem fR_told_28 : decode (m_cc M_R_told) 28 = .ok (.putfield 71, 3) := by decide +kernel
theorem fR_told_31 : decode (m_cc M_R_told) 31 = .ok (.aload_n 0, 1) := by decide +kernel
theorem fR_told_32 : decode (m_cc M_R_told) 32 = .ok (.getfield 71, 3) := by decide +kernel
theorem fR_told_35 : decode (m_cc M_R_told) 35 = .ok (.ifCond .le 5, 3) := by decide +kernel
theorem fR_told_38 : decode (m_cc M_R_told) 38 = .ok (.iconst 0, 1) := by decide +kernel
theorem fR_told_39 : decode (m_cc M_R_told) 39 = .ok (.ireturn, 1) := by decide +kernel
theorem fR_told_40 : decode (m_cc M_R_told) 40 = .ok (.iload_n 2, 1) := by decide +kernel
theorem fR_told_41 : decode (m_cc M_R_told) 41 = .ok (.ifCond .ne 10, 3) := by decide +kernel
theorem fR_told_44 : decode (m_cc M_R_told) 44 = .ok (.aload_n 0, 1) := by decide +kernel
theorem fR_told_45 : decode (m_cc M_R_told) 45 = .ok (.getfield 22, 3) := by decide +kernel
theorem fR_told_48 : decode (m_cc M_R_told) 48 = .ok (.iload_n 1, 1) := by decide +kernel
theorem fR_told_49 : decode (m_cc M_R_told) 49 = .ok (.iaload, 1) := by decide +kernel
theorem fR_told_50 : decode (m_cc M_R_told) 50 = .ok (.ireturn, 1) := by decide +kernel
theorem fR_told_51 : decode (m_cc M_R_told) 51 = .ok (.iload_n 2, 1) := by decide +kernel
theorem fR_told_52 : decode (m_cc M_R_told) 52 = .ok (.iconst 1, 1) := by decide +kernel
theorem fR_told_53 : decode (m_cc M_R_told) 53 = .ok (.if_icmp .ne 10, 3) := by decide +kernel
theorem fR_told_56 : decode (m_cc M_R_told) 56 = .ok (.aload_n 0, 1) := by decide +kernel
theorem fR_told_57 : decode (m_cc M_R_told) 57 = .ok (.getfield 7, 3) := by decide +kernel
theorem fR_told_60 : decode (m_cc M_R_told) 60 = .ok (.iload_n 1, 1) := by decide +kernel
theorem fR_told_61 : decode (m_cc M_R_told) 61 = .ok (.iaload, 1) := by decide +kernel
theorem fR_told_62 : decode (m_cc M_R_told) 62 = .ok (.ireturn, 1) := by decide +kernel
theorem fR_told_63 : decode (m_cc M_R_told) 63 = .ok (.iload_n 2, 1) := by decide +kernel
theorem fR_told_64 : decode (m_cc M_R_told) 64 = .ok (.iconst 2, 1) := by decide +kernel
theorem fR_told_65 : decode (m_cc M_R_told) 65 = .ok (.if_icmp .ne 10, 3) := by decide +kernel
theorem fR_told_68 : decode (m_cc M_R_told) 68 = .ok (.aload_n 0, 1) := by decide +kernel
theorem fR_told_69 : decode (m_cc M_R_told) 69 = .ok (.getfield 13, 3) := by decide +kernel
theorem fR_told_72 : decode (m_cc M_R_told) 72 = .ok (.iload_n 1, 1) := by decide +kernel
theorem fR_told_73 : decode (m_cc M_R_told) 73 = .ok (.iaload, 1) := by decide +kernel
theorem fR_told_74 : decode (m_cc M_R_told) 74 = .ok (.ireturn, 1) := by decide +kernel
theorem fR_told_75 : decode (m_cc M_R_told) 75 = .ok (.iload_n 2, 1) := by decide +kernel
theorem fR_told_76 : decode (m_cc M_R_told) 76 = .ok (.iconst 3, 1) := by decide +kernel
theorem fR_told_77 : decode (m_cc M_R_told) 77 = .ok (.if_icmp .ne 10, 3) := by decide +kernel
theorem fR_told_80 : decode (m_cc M_R_told) 80 = .ok (.aload_n 0, 1) := by decide +kernel
theorem fR_told_81 : decode (m_cc M_R_told) 81 = .ok (.getfield 16, 3) := by decide +kernel
theorem fR_told_84 : decode (m_cc M_R_told) 84 = .ok (.iload_n 1, 1) := by decide +kernel
theorem fR_told_85 : decode (m_cc M_R_told) 85 = .ok (.iaload, 1) := by decide +kernel
theorem fR_told_86 : decode (m_cc M_R_told) 86 = .ok (.ireturn, 1) := by decide +kernel
theorem fR_told_87 : decode (m_cc M_R_told) 87 = .ok (.iload_n 2, 1) := by decide +kernel
theorem fR_told_88 : decode (m_cc M_R_told) 88 = .ok (.iconst 4, 1) := by decide +kernel
theorem fR_told_89 : decode (m_cc M_R_told) 89 = .ok (.if_icmp .ne 10, 3) := by decide +kernel
theorem fR_told_92 : decode (m_cc M_R_told) 92 = .ok (.aload_n 0, 1) := by decide +kernel
theorem fR_told_93 : decode (m_cc M_R_told) 93 = .ok (.getfield 19, 3) := by decide +kernel
theorem fR_told_96 : decode (m_cc M_R_told) 96 = .ok (.iload_n 1, 1) := by decide +kernel
theorem fR_told_97 : decode (m_cc M_R_told) 97 = .ok (.iaload, 1) := by decide +kernel
theorem fR_told_98 : decode (m_cc M_R_told) 98 = .ok (.ireturn, 1) := by decide +kernel
theorem fR_told_99 : decode (m_cc M_R_told) 99 = .ok (.iload_n 2, 1) := by decide +kernel
theorem fR_told_100 : decode (m_cc M_R_told) 100 = .ok (.iconst 5, 1) := by decide +kernel
theorem fR_told_101 : decode (m_cc M_R_told) 101 = .ok (.if_icmp .ne 10, 3) := by decide +kernel
theorem fR_told_104 : decode (m_cc M_R_told) 104 = .ok (.aload_n 0, 1) := by decide +kernel
theorem fR_told_105 : decode (m_cc M_R_told) 105 = .ok (.getfield 25, 3) := by decide +kernel
theorem fR_told_108 : decode (m_cc M_R_told) 108 = .ok (.iload_n 1, 1) := by decide +kernel
theorem fR_told_109 : decode (m_cc M_R_told) 109 = .ok (.iaload, 1) := by decide +kernel
theorem fR_told_110 : decode (m_cc M_R_told) 110 = .ok (.ireturn, 1) := by decide +kernel
theorem fR_told_111 : decode (m_cc M_R_told) 111 = .ok (.iload_n 2, 1) := by decide +kernel
theorem fR_told_112 : decode (m_cc M_R_told) 112 = .ok (.bipush 6, 2) := by decide +kernel
theorem fR_told_114 : decode (m_cc M_R_told) 114 = .ok (.if_icmp .ne 10, 3) := by decide +kernel
theorem fR_told_117 : decode (m_cc M_R_told) 117 = .ok (.aload_n 0, 1) := by decide +kernel
theorem fR_told_118 : decode (m_cc M_R_told) 118 = .ok (.getfield 34, 3) := by decide +kernel
theorem fR_told_121 : decode (m_cc M_R_told) 121 = .ok (.iload_n 1, 1) := by decide +kernel
theorem fR_told_122 : decode (m_cc M_R_told) 122 = .ok (.iaload, 1) := by decide +kernel
theorem fR_told_123 : decode (m_cc M_R_told) 123 = .ok (.ireturn, 1) := by decide +kernel
theorem fR_told_124 : decode (m_cc M_R_told) 124 = .ok (.iload_n 2, 1) := by decide +kernel
theorem fR_told_125 : decode (m_cc M_R_told) 125 = .ok (.bipush 7, 2) := by decide +kernel
theorem fR_told_127 : decode (m_cc M_R_told) 127 = .ok (.if_icmp .ne 10, 3) := by decide +kernel
theorem fR_told_130 : decode (m_cc M_R_told) 130 = .ok (.aload_n 0, 1) := by decide +kernel
theorem fR_told_131 : decode (m_cc M_R_told) 131 = .ok (.getfield 28, 3) := by decide +kernel
theorem fR_told_134 : decode (m_cc M_R_told) 134 = .ok (.iload_n 1, 1) := by decide +kernel
theorem fR_told_135 : decode (m_cc M_R_told) 135 = .ok (.iaload, 1) := by decide +kernel
theorem fR_told_136 : decode (m_cc M_R_told) 136 = .ok (.ireturn, 1) := by decide +kernel
theorem fR_told_137 : decode (m_cc M_R_told) 137 = .ok (.iload_n 2, 1) := by decide +kernel
theorem fR_told_138 : decode (m_cc M_R_told) 138 = .ok (.bipush 8, 2) := by decide +kernel
theorem fR_told_140 : decode (m_cc M_R_told) 140 = .ok (.if_icmp .ne 10, 3) := by decide +kernel
theorem fR_told_143 : decode (m_cc M_R_told) 143 = .ok (.aload_n 0, 1) := by decide +kernel
theorem fR_told_144 : decode (m_cc M_R_told) 144 = .ok (.getfield 31, 3) := by decide +kernel
theorem fR_told_147 : decode (m_cc M_R_told) 147 = .ok (.iload_n 1, 1) := by decide +kernel
theorem fR_told_148 : decode (m_cc M_R_told) 148 = .ok (.iaload, 1) := by decide +kernel
theorem fR_told_149 : decode (m_cc M_R_told) 149 = .ok (.ireturn, 1) := by decide +kernel
theorem fR_told_150 : decode (m_cc M_R_told) 150 = .ok (.iconst 0, 1) := by decide +kernel
theorem fR_told_151 : decode (m_cc M_R_told) 151 = .ok (.istore_n 3, 1) := by decide +kernel
theorem fR_told_152 : decode (m_cc M_R_told) 152 = .ok (.iconst 0, 1) := by decide +kernel
theorem fR_told_153 : decode (m_cc M_R_told) 153 = .ok (.istore 4, 2) := by decide +kernel
theorem fR_told_155 : decode (m_cc M_R_told) 155 = .ok (.iload 4, 2) := by decide +kernel
theorem fR_told_157 : decode (m_cc M_R_told) 157 = .ok (.aload_n 0, 1) := by decide +kernel
theorem fR_told_158 : decode (m_cc M_R_told) 158 = .ok (.getfield 34, 3) := by decide +kernel
theorem fR_told_161 : decode (m_cc M_R_told) 161 = .ok (.iload_n 1, 1) := by decide +kernel
theorem fR_told_162 : decode (m_cc M_R_told) 162 = .ok (.iaload, 1) := by decide +kernel
theorem fR_told_163 : decode (m_cc M_R_told) 163 = .ok (.if_icmp .ge 43, 3) := by decide +kernel
theorem fR_told_166 : decode (m_cc M_R_told) 166 = .ok (.aload_n 0, 1) := by decide +kernel
theorem fR_told_167 : decode (m_cc M_R_told) 167 = .ok (.getfield 22, 3) := by decide +kernel
theorem fR_told_170 : decode (m_cc M_R_told) 170 = .ok (.iload_n 1, 1) := by decide +kernel
theorem fR_told_171 : decode (m_cc M_R_told) 171 = .ok (.iaload, 1) := by decide +kernel
theorem fR_told_172 : decode (m_cc M_R_told) 172 = .ok (.iconst 4, 1) := by decide +kernel
theorem fR_told_173 : decode (m_cc M_R_told) 173 = .ok (.if_icmp .eq 13, 3) := by decide +kernel
theorem fR_told_176 : decode (m_cc M_R_told) 176 = .ok (.aload_n 0, 1) := by decide +kernel
theorem fR_told_177 : decode (m_cc M_R_told) 177 = .ok (.getfield 22, 3) := by decide +kernel
theorem fR_told_180 : decode (m_cc M_R_told) 180 = .ok (.iload_n 1, 1) := by decide +kernel
theorem fR_told_181 : decode (m_cc M_R_told) 181 = .ok (.iaload, 1) := by decide +kernel
theorem fR_told_182 : decode (m_cc M_R_told) 182 = .ok (.iconst 5, 1) := by decide +kernel
theorem fR_told_183 : decode (m_cc M_R_told) 183 = .ok (.if_icmp .ne 23, 3) := by decide +kernel
theorem fR_told_186 : decode (m_cc M_R_told) 186 = .ok (.iload_n 3, 1) := by decide +kernel
theorem fR_told_187 : decode (m_cc M_R_told) 187 = .ok (.aload_n 0, 1) := by decide +kernel
theorem fR_told_188 : decode (m_cc M_R_told) 188 = .ok (.aload_n 0, 1) := by decide +kernel
theorem fR_told_189 : decode (m_cc M_R_told) 189 = .ok (.iload_n 1, 1) := by decide +kernel
theorem fR_told_190 : decode (m_cc M_R_told) 190 = .ok (.iload 4, 2) := by decide +kernel
theorem fR_told_192 : decode (m_cc M_R_told) 192 = .ok (.invokevirtual 104, 3) := by decide +kernel
theorem fR_told_195 : decode (m_cc M_R_told) 195 = .ok (.invokevirtual 119, 3) := by decide +kernel
theorem fR_told_198 : decode (m_cc M_R_told) 198 = .ok (.iadd, 1) := by decide +kernel
theorem fR_told_199 : decode (m_cc M_R_told) 199 = .ok (.istore_n 3, 1) := by decide +kernel
theorem fR_told_200 : decode (m_cc M_R_told) 200 = .ok (.iinc 4 1, 3) := by decide +kernel
theorem fR_told_203 : decode (m_cc M_R_told) 203 = .ok (.goto (-48), 3) := by decide +kernel
theorem fR_told_206 : decode (m_cc M_R_told) 206 = .ok (.iload_n 3, 1) := by decide +kernel
theorem fR_told_207 : decode (m_cc M_R_told) 207 = .ok (.ireturn, 1) := by decide +kernel
theorem fR_lineOf_0 : decode (m_cc M_R_lineOf) 0 = .ok (.aload_n 0, 1) := by decide +kernel
theorem fR_lineOf_1 : decode (m_cc M_R_lineOf) 1 = .ok (.aload_n 0, 1) := by decide +kernel
theorem fR_lineOf_2 : decode (m_cc M_R_lineOf) 2 = .ok (.iload_n 1, 1) := by decide +kernel
theorem fR_lineOf_3 : decode (m_cc M_R_lineOf) 3 = .ok (.invokevirtual 94, 3) := by decide +kernel
theorem fR_lineOf_6 : decode (m_cc M_R_lineOf) 6 = .ok (.ifCond .ne 7, 3) := by decide +kernel
theorem fR_lineOf_9 : decode (m_cc M_R_lineOf) 9 = .ok (.iconst 1, 1) := by decide +kernel
theorem fR_lineOf_10 : decode (m_cc M_R_lineOf) 10 = .ok (.goto 12, 3) := by decide +kernel
theorem fR_lineOf_13 : decode (m_cc M_R_lineOf) 13 = .ok (.iload_n 2, 1) := by decide +kernel
theorem fR_lineOf_14 : decode (m_cc M_R_lineOf) 14 = .ok (.ifCond .ge 7, 3) := by decide +kernel
theorem fR_lineOf_17 : decode (m_cc M_R_lineOf) 17 = .ok (.iconst 2, 1) := by decide +kernel
theorem fR_lineOf_18 : decode (m_cc M_R_lineOf) 18 = .ok (.goto 4, 3) := by decide +kernel
theorem fR_lineOf_21 : decode (m_cc M_R_lineOf) 21 = .ok (.iconst 0, 1) := by decide +kernel
theorem fR_lineOf_22 : decode (m_cc M_R_lineOf) 22 = .ok (.putfield 71, 3) := by decide +kernel
theorem fR_lineOf_25 : decode (m_cc M_R_lineOf) 25 = .ok (.aload_n 0, 1) := by decide +kernel
theorem fR_lineOf_26 : decode (m_cc M_R_lineOf) 26 = .ok (.getfield 71, 3) := by decide +kernel
theorem fR_lineOf_29 : decode (m_cc M_R_lineOf) 29 = .ok (.ifCond .le 5, 3) := by decide +kernel
theorem fR_lineOf_32 : decode (m_cc M_R_lineOf) 32 = .ok (.iconst 0, 1) := by decide +kernel
theorem fR_lineOf_33 : decode (m_cc M_R_lineOf) 33 = .ok (.ireturn, 1) := by decide +kernel
theorem fR_lineOf_34 : decode (m_cc M_R_lineOf) 34 = .ok (.iload_n 2, 1) := by decide +kernel
theorem fR_lineOf_35 : decode (m_cc M_R_lineOf) 35 = .ok (.aload_n 0, 1) := by decide +kernel
theorem fR_lineOf_36 : decode (m_cc M_R_lineOf) 36 = .ok (.getfield 34, 3) := by decide +kernel
theorem fR_lineOf_39 : decode (m_cc M_R_lineOf) 39 = .ok (.iload_n 1, 1) := by decide +kernel
theorem fR_lineOf_40 : decode (m_cc M_R_lineOf) 40 = .ok (.iaload, 1) := by decide +kernel
theorem fR_lineOf_41 : decode (m_cc M_R_lineOf) 41 = .ok (.if_icmp .ge 12, 3) := by decide +kernel
theorem fR_lineOf_44 : decode (m_cc M_R_lineOf) 44 = .ok (.aload_n 0, 1) := by decide +kernel
theorem fR_lineOf_45 : decode (m_cc M_R_lineOf) 45 = .ok (.iload_n 1, 1) := by decide +kernel
theorem fR_lineOf_46 : decode (m_cc M_R_lineOf) 46 = .ok (.iload_n 2, 1) := by decide +kernel
theorem fR_lineOf_47 : decode (m_cc M_R_lineOf) 47 = .ok (.invokevirtual 104, 3) := by decide +kernel
theorem fR_lineOf_50 : decode (m_cc M_R_lineOf) 50 = .ok (.goto 4, 3) := by decide +kernel
theorem fR_lineOf_53 : decode (m_cc M_R_lineOf) 53 = .ok (.iconst (-1), 1) := by decide +kernel
theorem fR_lineOf_54 : decode (m_cc M_R_lineOf) 54 = .ok (.ireturn, 1) := by decide +kernel
theorem fR_packed_0 : decode (m_cc M_R_packed) 0 = .ok (.aload_n 0, 1) := by decide +kernel
theorem fR_packed_1 : decode (m_cc M_R_packed) 1 = .ok (.aload_n 0, 1) := by decide +kernel
theorem fR_packed_2 : decode (m_cc M_R_packed) 2 = .ok (.iload_n 1, 1) := by decide +kernel
theorem fR_packed_3 : decode (m_cc M_R_packed) 3 = .ok (.invokevirtual 101, 3) := by decide +kernel
theorem fR_packed_6 : decode (m_cc M_R_packed) 6 = .ok (.ifCond .eq 7, 3) := by decide +kernel
theorem fR_packed_9 : decode (m_cc M_R_packed) 9 = .ok (.iconst 0, 1) := by decide +kernel
theorem fR_packed_10 : decode (m_cc M_R_packed) 10 = .ok (.goto 4, 3) := by decide +kernel
theorem fR_packed_13 : decode (m_cc M_R_packed) 13 = .ok (.iconst 1, 1) := by decide +kernel
theorem fR_packed_14 : decode (m_cc M_R_packed) 14 = .ok (.putfield 71, 3) := by decide +kernel
theorem fR_packed_17 : decode (m_cc M_R_packed) 17 = .ok (.aload_n 0, 1) := by decide +kernel
theorem fR_packed_18 : decode (m_cc M_R_packed) 18 = .ok (.getfield 71, 3) := by decide +kernel
theorem fR_packed_21 : decode (m_cc M_R_packed) 21 = .ok (.ifCond .le 5, 3) := by decide +kernel
theorem fR_packed_24 : decode (m_cc M_R_packed) 24 = .ok (.lconst 0, 1) := by decide +kernel
theorem fR_packed_25 : decode (m_cc M_R_packed) 25 = .ok (.lreturn, 1) := by decide +kernel
theorem fR_packed_26 : decode (m_cc M_R_packed) 26 = .ok (.aload_n 0, 1) := by decide +kernel
theorem fR_packed_27 : decode (m_cc M_R_packed) 27 = .ok (.getfield 43, 3) := by decide +kernel
theorem fR_packed_30 : decode (m_cc M_R_packed) 30 = .ok (.iload_n 1, 1) := by decide +kernel
theorem fR_packed_31 : decode (m_cc M_R_packed) 31 = .ok (.iaload, 1) := by decide +kernel
theorem fR_packed_32 : decode (m_cc M_R_packed) 32 = .ok (.aload_n 0, 1) := by decide +kernel
theorem fR_packed_33 : decode (m_cc M_R_packed) 33 = .ok (.getfield 46, 3) := by decide +kernel
theorem fR_packed_36 : decode (m_cc M_R_packed) 36 = .ok (.iload_n 1, 1) := by decide +kernel
theorem fR_packed_37 : decode (m_cc M_R_packed) 37 = .ok (.iaload, 1) := by decide +kernel
theorem fR_packed_38 : decode (m_cc M_R_packed) 38 = .ok (.iconst 1, 1) := by decide +kernel
theorem fR_packed_39 : decode (m_cc M_R_packed) 39 = .ok (.iadd, 1) := by decide +kernel
theorem fR_packed_40 : decode (m_cc M_R_packed) 40 = .ok (.iconst 4, 1) := by decide +kernel
theorem fR_packed_41 : decode (m_cc M_R_packed) 41 = .ok (.ishl, 1) := by decide +kernel
theorem fR_packed_42 : decode (m_cc M_R_packed) 42 = .ok (.ior, 1) := by decide +kernel
theorem fR_packed_43 : decode (m_cc M_R_packed) 43 = .ok (.aload_n 0, 1) := by decide +kernel
theorem fR_packed_44 : decode (m_cc M_R_packed) 44 = .ok (.getfield 49, 3) := by decide +kernel
theorem fR_packed_47 : decode (m_cc M_R_packed) 47 = .ok (.iload_n 1, 1) := by decide +kernel
theorem fR_packed_48 : decode (m_cc M_R_packed) 48 = .ok (.iaload, 1) := by decide +kernel
theorem fR_packed_49 : decode (m_cc M_R_packed) 49 = .ok (.bipush 9, 2) := by decide +kernel
theorem fR_packed_51 : decode (m_cc M_R_packed) 51 = .ok (.ishl, 1) := by decide +kernel
theorem fR_packed_52 : decode (m_cc M_R_packed) 52 = .ok (.ior, 1) := by decide +kernel
theorem fR_packed_53 : decode (m_cc M_R_packed) 53 = .ok (.i2l, 1) := by decide +kernel
theorem fR_packed_54 : decode (m_cc M_R_packed) 54 = .ok (.lstore_n 2, 1) := by decide +kernel
theorem fR_packed_55 : decode (m_cc M_R_packed) 55 = .ok (.aload_n 0, 1) := by decide +kernel
theorem fR_packed_56 : decode (m_cc M_R_packed) 56 = .ok (.getfield 52, 3) := by decide +kernel
theorem fR_packed_59 : decode (m_cc M_R_packed) 59 = .ok (.iload_n 1, 1) := by decide +kernel
theorem fR_packed_60 : decode (m_cc M_R_packed) 60 = .ok (.iaload, 1) := by decide +kernel
theorem fR_packed_61 : decode (m_cc M_R_packed) 61 = .ok (.i2l, 1) := by decide +kernel
theorem fR_packed_62 : decode (m_cc M_R_packed) 62 = .ok (.aload_n 0, 1) := by decide +kernel
theorem fR_packed_63 : decode (m_cc M_R_packed) 63 = .ok (.getfield 55, 3) := by decide +kernel
theorem fR_packed_66 : decode (m_cc M_R_packed) 66 = .ok (.iload_n 1, 1) := by decide +kernel
theorem fR_packed_67 : decode (m_cc M_R_packed) 67 = .ok (.iaload, 1) := by decide +kernel
theorem fR_packed_68 : decode (m_cc M_R_packed) 68 = .ok (.i2l, 1) := by decide +kernel
theorem fR_packed_69 : decode (m_cc M_R_packed) 69 = .ok (.bipush 10, 2) := by decide +kernel
theorem fR_packed_71 : decode (m_cc M_R_packed) 71 = .ok (.lshl, 1) := by decide +kernel
theorem fR_packed_72 : decode (m_cc M_R_packed) 72 = .ok (.lor, 1) := by decide +kernel
theorem fR_packed_73 : decode (m_cc M_R_packed) 73 = .ok (.aload_n 0, 1) := by decide +kernel
theorem fR_packed_74 : decode (m_cc M_R_packed) 74 = .ok (.getfield 58, 3) := by decide +kernel
theorem fR_packed_77 : decode (m_cc M_R_packed) 77 = .ok (.iload_n 1, 1) := by decide +kernel
theorem fR_packed_78 : decode (m_cc M_R_packed) 78 = .ok (.iaload, 1) := by decide +kernel
theorem fR_packed_79 : decode (m_cc M_R_packed) 79 = .ok (.i2l, 1) := by decide +kernel
theorem fR_packed_80 : decode (m_cc M_R_packed) 80 = .ok (.bipush 20, 2) := by decide +kernel
theorem fR_packed_82 : decode (m_cc M_R_packed) 82 = .ok (.lshl, 1) := by decide +kernel
theorem fR_packed_83 : decode (m_cc M_R_packed) 83 = .ok (.lor, 1) := by decide +kernel
theorem fR_packed_84 : decode (m_cc M_R_packed) 84 = .ok (.aload_n 0, 1) := by decide +kernel
theorem fR_packed_85 : decode (m_cc M_R_packed) 85 = .ok (.getfield 61, 3) := by decide +kernel
theorem fR_packed_88 : decode (m_cc M_R_packed) 88 = .ok (.iload_n 1, 1) := by decide +kernel
theorem fR_packed_89 : decode (m_cc M_R_packed) 89 = .ok (.iaload, 1) := by decide +kernel
theorem fR_packed_90 : decode (m_cc M_R_packed) 90 = .ok (.i2l, 1) := by decide +kernel
theorem fR_packed_91 : decode (m_cc M_R_packed) 91 = .ok (.bipush 30, 2) := by decide +kernel
theorem fR_packed_93 : decode (m_cc M_R_packed) 93 = .ok (.lshl, 1) := by decide +kernel
theorem fR_packed_94 : decode (m_cc M_R_packed) 94 = .ok (.lor, 1) := by decide +kernel
theorem fR_packed_95 : decode (m_cc M_R_packed) 95 = .ok (.lstore 4, 2) := by decide +kernel
theorem fR_packed_97 : decode (m_cc M_R_packed) 97 = .ok (.aload_n 0, 1) := by decide +kernel
theorem fR_packed_98 : decode (m_cc M_R_packed) 98 = .ok (.getfield 64, 3) := by decide +kernel
theorem fR_packed_101 : decode (m_cc M_R_packed) 101 = .ok (.iload_n 1, 1) := by decide +kernel
theorem fR_packed_102 : decode (m_cc M_R_packed) 102 = .ok (.baload, 1) := by decide +kernel
theorem fR_packed_103 : decode (m_cc M_R_packed) 103 = .ok (.ifCond .eq 7, 3) := by decide +kernel
theorem fR_packed_106 : decode (m_cc M_R_packed) 106 = .ok (.lconst 1, 1) := by decide +kernel
theorem fR_packed_107 : decode (m_cc M_R_packed) 107 = .ok (.goto 4, 3) := by decide +kernel
theorem fR_packed_110 : decode (m_cc M_R_packed) 110 = .ok (.lconst 0, 1) := by decide +kernel
theorem fR_packed_111 : decode (m_cc M_R_packed) 111 = .ok (.aload_n 0, 1) := by decide +kernel
theorem fR_packed_112 : decode (m_cc M_R_packed) 112 = .ok (.getfield 68, 3) := by decide +kernel
theorem fR_packed_115 : decode (m_cc M_R_packed) 115 = .ok (.iload_n 1, 1) := by decide +kernel
theorem fR_packed_116 : decode (m_cc M_R_packed) 116 = .ok (.baload, 1) := by decide +kernel
theorem fR_packed_117 : decode (m_cc M_R_packed) 117 = .ok (.ifCond .eq 9, 3) := by decide +kernel
theorem fR_packed_120 : decode (m_cc M_R_packed) 120 = .ok (.ldc2_w 134, 3) := by decide +kernel
theorem fR_packed_123 : decode (m_cc M_R_packed) 123 = .ok (.goto 4, 3) := by decide +kernel
theorem fR_packed_126 : decode (m_cc M_R_packed) 126 = .ok (.lconst 0, 1) := by decide +kernel
theorem fR_packed_127 : decode (m_cc M_R_packed) 127 = .ok (.lor, 1) := by decide +kernel
theorem fR_packed_128 : decode (m_cc M_R_packed) 128 = .ok (.aload_n 0, 1) := by decide +kernel
theorem fR_packed_129 : decode (m_cc M_R_packed) 129 = .ok (.getfield 40, 3) := by decide +kernel
theorem fR_packed_132 : decode (m_cc M_R_packed) 132 = .ok (.iload_n 1, 1) := by decide +kernel
theorem fR_packed_133 : decode (m_cc M_R_packed) 133 = .ok (.iaload, 1) := by decide +kernel
theorem fR_packed_134 : decode (m_cc M_R_packed) 134 = .ok (.i2l, 1) := by decide +kernel
theorem fR_packed_135 : decode (m_cc M_R_packed) 135 = .ok (.iconst 2, 1) := by decide +kernel
theorem fR_packed_136 : decode (m_cc M_R_packed) 136 = .ok (.lshl, 1) := by decide +kernel
theorem fR_packed_137 : decode (m_cc M_R_packed) 137 = .ok (.lor, 1) := by decide +kernel
theorem fR_packed_138 : decode (m_cc M_R_packed) 138 = .ok (.lstore 6, 2) := by decide +kernel
theorem fR_packed_140 : decode (m_cc M_R_packed) 140 = .ok (.lload_n 2, 1) := by decide +kernel
theorem fR_packed_141 : decode (m_cc M_R_packed) 141 = .ok (.lload 4, 2) := by decide +kernel
theorem fR_packed_143 : decode (m_cc M_R_packed) 143 = .ok (.bipush 12, 2) := by decide +kernel
theorem fR_packed_145 : decode (m_cc M_R_packed) 145 = .ok (.lshl, 1) := by decide +kernel
theorem fR_packed_146 : decode (m_cc M_R_packed) 146 = .ok (.lor, 1) := by decide +kernel
theorem fR_packed_147 : decode (m_cc M_R_packed) 147 = .ok (.lload 6, 2) := by decide +kernel
theorem fR_packed_149 : decode (m_cc M_R_packed) 149 = .ok (.bipush 52, 2) := by decide +kernel
theorem fR_packed_151 : decode (m_cc M_R_packed) 151 = .ok (.lshl, 1) := by decide +kernel
theorem fR_packed_152 : decode (m_cc M_R_packed) 152 = .ok (.lor, 1) := by decide +kernel
theorem fR_packed_153 : decode (m_cc M_R_packed) 153 = .ok (.lreturn, 1) := by decide +kernel
theorem fR_count_0 : decode (m_cc M_R_count) 0 = .ok (.aload_n 0, 1) := by decide +kernel
theorem fR_count_1 : decode (m_cc M_R_count) 1 = .ok (.iconst 0, 1) := by decide +kernel
theorem fR_count_2 : decode (m_cc M_R_count) 2 = .ok (.putfield 71, 3) := by decide +kernel
theorem fR_count_5 : decode (m_cc M_R_count) 5 = .ok (.iload_n 1, 1) := by decide +kernel
theorem fR_count_6 : decode (m_cc M_R_count) 6 = .ok (.ifCond .ne 8, 3) := by decide +kernel
theorem fR_count_9 : decode (m_cc M_R_count) 9 = .ok (.aload_n 0, 1) := by decide +kernel
theorem fR_count_10 : decode (m_cc M_R_count) 10 = .ok (.getfield 75, 3) := by decide +kernel
theorem fR_count_13 : decode (m_cc M_R_count) 13 = .ok (.ireturn, 1) := by decide +kernel
theorem fR_count_14 : decode (m_cc M_R_count) 14 = .ok (.iload_n 1, 1) := by decide +kernel
theorem fR_count_15 : decode (m_cc M_R_count) 15 = .ok (.iconst 1, 1) := by decide +kernel
theorem fR_count_16 : decode (m_cc M_R_count) 16 = .ok (.if_icmp .ne 8, 3) := by decide +kernel
theorem fR_count_19 : decode (m_cc M_R_count) 19 = .ok (.aload_n 0, 1) := by decide +kernel
theorem fR_count_20 : decode (m_cc M_R_count) 20 = .ok (.getfield 82, 3) := by decide +kernel
theorem fR_count_23 : decode (m_cc M_R_count) 23 = .ok (.ireturn, 1) := by decide +kernel
theorem fR_count_24 : decode (m_cc M_R_count) 24 = .ok (.iconst 0, 1) := by decide +kernel
theorem fR_count_25 : decode (m_cc M_R_count) 25 = .ok (.istore_n 2, 1) := by decide +kernel
theorem fR_count_26 : decode (m_cc M_R_count) 26 = .ok (.iconst 0, 1) := by decide +kernel
theorem fR_count_27 : decode (m_cc M_R_count) 27 = .ok (.istore_n 3, 1) := by decide +kernel
theorem fR_count_28 : decode (m_cc M_R_count) 28 = .ok (.iload_n 3, 1) := by decide +kernel
theorem fR_count_29 : decode (m_cc M_R_count) 29 = .ok (.aload_n 0, 1) := by decide +kernel
theorem fR_count_30 : decode (m_cc M_R_count) 30 = .ok (.getfield 82, 3) := by decide +kernel
theorem fR_count_33 : decode (m_cc M_R_count) 33 = .ok (.if_icmp .ge 60, 3) := by decide +kernel
theorem fR_count_36 : decode (m_cc M_R_count) 36 = .ok (.iload_n 2, 1) := by decide +kernel
theorem fR_count_37 : decode (m_cc M_R_count) 37 = .ok (.iload_n 1, 1) := by decide +kernel
theorem fR_count_38 : decode (m_cc M_R_count) 38 = .ok (.iconst 2, 1) := by decide +kernel
theorem fR_count_39 : decode (m_cc M_R_count) 39 = .ok (.if_icmp .ne 40, 3) := by decide +kernel
theorem fR_count_42 : decode (m_cc M_R_count) 42 = .ok (.aload_n 0, 1) := by decide +kernel
theorem fR_count_43 : decode (m_cc M_R_count) 43 = .ok (.getfield 64, 3) := by decide +kernel
theorem fR_count_46 : decode (m_cc M_R_count) 46 = .ok (.iload_n 3, 1) := by decide +kernel
theorem fR_count_47 : decode (m_cc M_R_count) 47 = .ok (.baload, 1) := by decide +kernel
theorem fR_count_48 : decode (m_cc M_R_count) 48 = .ok (.ifCond .eq 27, 3) := by decide +kernel
theorem fR_count_51 : decode (m_cc M_R_count) 51 = .ok (.aload_n 0, 1) := by decide +kernel
theorem fR_count_52 : decode (m_cc M_R_count) 52 = .ok (.getfield 22, 3) := by decide +kernel
theorem fR_count_55 : decode (m_cc M_R_count) 55 = .ok (.aload_n 0, 1) := by decide +kernel
theorem fR_count_56 : decode (m_cc M_R_count) 56 = .ok (.getfield 40, 3) := by decide +kernel
theorem fR_count_59 : decode (m_cc M_R_count) 59 = .ok (.iload_n 3, 1) := by decide +kernel
theorem fR_count_60 : decode (m_cc M_R_count) 60 = .ok (.iaload, 1) := by decide +kernel
theorem fR_count_61 : decode (m_cc M_R_count) 61 = .ok (.iaload, 1) := by decide +kernel
theorem fR_count_62 : decode (m_cc M_R_count) 62 = .ok (.iconst 4, 1) := by decide +kernel
theorem fR_count_63 : decode (m_cc M_R_count) 63 = .ok (.if_icmp .ge 12, 3) := by decide +kernel
theorem fR_count_66 : decode (m_cc M_R_count) 66 = .ok (.aload_n 0, 1) := by decide +kernel
theorem fR_count_67 : decode (m_cc M_R_count) 67 = .ok (.getfield 55, 3) := by decide +kernel
theorem fR_count_70 : decode (m_cc M_R_count) 70 = .ok (.iload_n 3, 1) := by decide +kernel
theorem fR_count_71 : decode (m_cc M_R_count) 71 = .ok (.iaload, 1) := by decide +kernel
theorem fR_count_72 : decode (m_cc M_R_count) 72 = .ok (.goto 13, 3) := by decide +kernel
theorem fR_count_75 : decode (m_cc M_R_count) 75 = .ok (.iconst 0, 1) := by decide +kernel
theorem fR_count_76 : decode (m_cc M_R_count) 76 = .ok (.goto 9, 3) := by decide +kernel
theorem fR_count_79 : decode (m_cc M_R_count) 79 = .ok (.aload_n 0, 1) := by decide +kernel
theorem fR_count_80 : decode (m_cc M_R_count) 80 = .ok (.getfield 61, 3) := by decide +kernel
theorem fR_count_83 : decode (m_cc M_R_count) 83 = .ok (.iload_n 3, 1) := by decide +kernel
theorem fR_count_84 : decode (m_cc M_R_count) 84 = .ok (.iaload, 1) := by decide +kernel
theorem fR_count_85 : decode (m_cc M_R_count) 85 = .ok (.iadd, 1) := by decide +kernel
theorem fR_count_86 : decode (m_cc M_R_count) 86 = .ok (.istore_n 2, 1) := by decide +kernel
theorem fR_count_87 : decode (m_cc M_R_count) 87 = .ok (.iinc 3 1, 3) := by decide +kernel
theorem fR_count_90 : decode (m_cc M_R_count) 90 = .ok (.goto (-62), 3) := by decide +kernel
theorem fR_count_93 : decode (m_cc M_R_count) 93 = .ok (.iload_n 1, 1) := by decide +kernel
theorem fR_count_94 : decode (m_cc M_R_count) 94 = .ok (.iconst 2, 1) := by decide +kernel
theorem fR_count_95 : decode (m_cc M_R_count) 95 = .ok (.if_icmp .eq 8, 3) := by decide +kernel
theorem fR_count_98 : decode (m_cc M_R_count) 98 = .ok (.iload_n 1, 1) := by decide +kernel
theorem fR_count_99 : decode (m_cc M_R_count) 99 = .ok (.iconst 3, 1) := by decide +kernel
theorem fR_count_100 : decode (m_cc M_R_count) 100 = .ok (.if_icmp .ne 7, 3) := by decide +kernel
theorem fR_count_103 : decode (m_cc M_R_count) 103 = .ok (.iload_n 2, 1) := by decide +kernel
theorem fR_count_104 : decode (m_cc M_R_count) 104 = .ok (.goto 4, 3) := by decide +kernel
theorem fR_count_107 : decode (m_cc M_R_count) 107 = .ok (.iconst (-1), 1) := by decide +kernel
theorem fR_count_108 : decode (m_cc M_R_count) 108 = .ok (.ireturn, 1) := by decide +kernel
