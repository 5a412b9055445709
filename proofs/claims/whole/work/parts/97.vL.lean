/-! WALK: the law -/
set_option maxRecDepth 20000 in
theorem vW_law_23 {l : Launch} {G : ev_G} {h : ev_AH} {a1 : Nat} {a2 : Nat} {a3 : Nat} {a4 : Int32} {uc us : Nat} (V : ((((nI (g_sL G)) - 5) < a4 → (1 : Int32) = 1) ∧ (¬ ((nI (g_sL G)) - 5) < a4 → (vp_in a4 (g_sL G)) ∧ ((((g_xs G (Int32.toNatClampNeg a4)) &&& 15) = 0 → (vp_in (a4 + 1) (g_sL G)) ∧ (vp_in (a4 + 2) (g_sL G)) ∧ (vp_in (a4 + 3) (g_sL G)) ∧ (vp_in (a4 + 4) (g_sL G)) ∧ (9 ≤ uc ∧ 143 ≤ us) ∧ ∃ (A : Int32 → ev_AH → Prop) (X : String → ev_AH → Prop), Mt l G M_W_order [.ref a1, .int (g_xs G (Int32.toNatClampNeg (a4 + 1))), .int (g_xs G (Int32.toNatClampNeg (a4 + 2))), .int (g_xs G (Int32.toNatClampNeg (a4 + 3))), .int (g_xs G (Int32.toNatClampNeg (a4 + 4))), .ref a3] h (ev_pi A X) ∧ (∀ (r8 : Int32) (h7 : ev_AH), A r8 h7 → (vp_in (a4 + 1) (g_sL G)) ∧ (vp_in (a4 + 2) (g_sL G)) ∧ (vp_in (a4 + 3) (g_sL G)) ∧ (vp_in (a4 + 4) (g_sL G)) ∧ (∃ fs : List Value, h7 a2 = some (4, fs)) ∧ (0 ≤ (uc - 9) ∧ 0 ≤ (us - 143)) ∧ ∃ (A : Int32 → ev_AH → Prop) (X : String → ev_AH → Prop), Mt l G M_R_order [.ref a2, .int (g_xs G (Int32.toNatClampNeg (a4 + 1))), .int (g_xs G (Int32.toNatClampNeg (a4 + 2))), .int (g_xs G (Int32.toNatClampNeg (a4 + 3))), .int (g_xs G (Int32.toNatClampNeg (a4 + 4)))] h7 (ev_pi A X) ∧ (∀ (r14 : Int32) (h13 : ev_AH), A r14 h13 → ∃ v16 : Int32, ev_f h13 a2 4 0 = some (.int v16) ∧ (∃ fs : List Value, h13 a2 = some (4, fs)) ∧ ((v16 = r8 → ((¬ r8 = 0 → ∀ x19 : Int32, x19 = a4 + 5 → Ev l G M_W_law 23 [(0, .ref ((g_sb G))), (1, .ref a1), (2, .ref a2), (3, .ref a3), (4, .int x19)] [] h13 (uc - 9) (us - 143) (lw_fin G)) ∧ (r8 = 0 → ∃ v20 : Int64, ¬ (0 : Int32) < 0 ∧ ev_f h13 a3 102 (Int32.toNatClampNeg 0) = some (.long v20) ∧ (((lg_cmp v20 (Int32.toInt64 r14)) = 0 → ∀ x21 : Int32, x21 = a4 + 5 → Ev l G M_W_law 23 [(0, .ref ((g_sb G))), (1, .ref a1), (2, .ref a2), (3, .ref a3), (4, .int x21)] [] h13 (uc - 9) (us - 143) (lw_fin G)) ∧ (¬ (lg_cmp v20 (Int32.toInt64 r14)) = 0 → (0 : Int32) = 1))))) ∧ (¬ v16 = r8 → (0 : Int32) = 1))) ∧ (∀ (E : String) (h9 : ev_AH), X E h9 → False)) ∧ (∀ (E : String) (h9 : ev_AH), X E h9 → False)) ∧ (((g_xs G (Int32.toNatClampNeg a4)) &&& 15) = 1 → (vp_in (a4 + 1) (g_sL G)) ∧ (vp_in (a4 + 2) (g_sL G)) ∧ (vp_in (a4 + 3) (g_sL G)) ∧ (vp_in (a4 + 4) (g_sL G)) ∧ (12 ≤ uc ∧ 253 ≤ us) ∧ ∃ (A : Int32 → ev_AH → Prop) (X : String → ev_AH → Prop), Mt l G M_W_line [.ref a1, .int (g_xs G (Int32.toNatClampNeg (a4 + 1))), .int (g_xs G (Int32.toNatClampNeg (a4 + 2))), .int (g_xs G (Int32.toNatClampNeg (a4 + 3))), .int (g_xs G (Int32.toNatClampNeg (a4 + 4))), .ref a3] h (ev_pi A X) ∧ (∀ (r27 : Int32) (h26 : ev_AH), A r27 h26 → (vp_in (a4 + 1) (g_sL G)) ∧ (vp_in (a4 + 2) (g_sL G)) ∧ (vp_in (a4 + 3) (g_sL G)) ∧ (vp_in (a4 + 4) (g_sL G)) ∧ (∃ fs : List Value, h26 a2 = some (4, fs)) ∧ (0 ≤ (uc - 12) ∧ 0 ≤ (us - 253)) ∧ ∃ (A : Int32 → ev_AH → Prop) (X : String → ev_AH → Prop), Mt l G M_R_line [.ref a2, .int (g_xs G (Int32.toNatClampNeg (a4 + 1))), .int (g_xs G (Int32.toNatClampNeg (a4 + 2))), .int (g_xs G (Int32.toNatClampNeg (a4 + 3))), .int (g_xs G (Int32.toNatClampNeg (a4 + 4)))] h26 (ev_pi A X) ∧ (∀ (r33 : Int32) (h32 : ev_AH), A r33 h32 → ∃ v35 : Int32, ev_f h32 a2 4 0 = some (.int v35) ∧ (∃ fs : List Value, h32 a2 = some (4, fs)) ∧ ((v35 = r27 → ((¬ r27 = 0 → ∀ x38 : Int32, x38 = a4 + 5 → Ev l G M_W_law 23 [(0, .ref ((g_sb G))), (1, .ref a1), (2, .ref a2), (3, .ref a3), (4, .int x38)] [] h32 (uc - 12) (us - 253) (lw_fin G)) ∧ (r27 = 0 → ∃ v39 : Int64, ¬ (0 : Int32) < 0 ∧ ev_f h32 a3 102 (Int32.toNatClampNeg 0) = some (.long v39) ∧ (((lg_cmp v39 (Int32.toInt64 r33)) = 0 → ∀ x40 : Int32, x40 = a4 + 5 → Ev l G M_W_law 23 [(0, .ref ((g_sb G))), (1, .ref a1), (2, .ref a2), (3, .ref a3), (4, .int x40)] [] h32 (uc - 12) (us - 253) (lw_fin G)) ∧ (¬ (lg_cmp v39 (Int32.toInt64 r33)) = 0 → (0 : Int32) = 1))))) ∧ (¬ v35 = r27 → (0 : Int32) = 1))) ∧ (∀ (E : String) (h9 : ev_AH), X E h9 → False)) ∧ (∀ (E : String) (h9 : ev_AH), X E h9 → False)) ∧ (((g_xs G (Int32.toNatClampNeg a4)) &&& 15) = 2 → (vp_in (a4 + 1) (g_sL G)) ∧ (vp_in (a4 + 2) (g_sL G)) ∧ (5 ≤ uc ∧ 30 ≤ us) ∧ ∃ (A : Int32 → ev_AH → Prop) (X : String → ev_AH → Prop), Mt l G M_W_hold [.ref a1, .int (g_xs G (Int32.toNatClampNeg (a4 + 1))), .int (g_xs G (Int32.toNatClampNeg (a4 + 2))), .ref a3] h (ev_pi A X) ∧ (∀ (r44 : Int32) (h43 : ev_AH), A r44 h43 → (vp_in (a4 + 1) (g_sL G)) ∧ (vp_in (a4 + 2) (g_sL G)) ∧ (∃ fs : List Value, h43 a2 = some (4, fs)) ∧ (0 ≤ (uc - 5) ∧ 0 ≤ (us - 30)) ∧ ∃ (A : Int32 → ev_AH → Prop) (X : String → ev_AH → Prop), Mt l G M_R_hold [.ref a2, .int (g_xs G (Int32.toNatClampNeg (a4 + 1))), .int (g_xs G (Int32.toNatClampNeg (a4 + 2)))] h43 (ev_pi A X) ∧ (∀ (r48 : Int32) (h47 : ev_AH), A r48 h47 → ∃ v50 : Int32, ev_f h47 a2 4 0 = some (.int v50) ∧ (∃ fs : List Value, h47 a2 = some (4, fs)) ∧ ((v50 = r44 → ((¬ r44 = 0 → ∀ x53 : Int32, x53 = a4 + 5 → Ev l G M_W_law 23 [(0, .ref ((g_sb G))), (1, .ref a1), (2, .ref a2), (3, .ref a3), (4, .int x53)] [] h47 (uc - 5) (us - 30) (lw_fin G)) ∧ (r44 = 0 → ∃ v54 : Int64, ¬ (0 : Int32) < 0 ∧ ev_f h47 a3 102 (Int32.toNatClampNeg 0) = some (.long v54) ∧ (((lg_cmp v54 (Int32.toInt64 r48)) = 0 → ∀ x55 : Int32, x55 = a4 + 5 → Ev l G M_W_law 23 [(0, .ref ((g_sb G))), (1, .ref a1), (2, .ref a2), (3, .ref a3), (4, .int x55)] [] h47 (uc - 5) (us - 30) (lw_fin G)) ∧ (¬ (lg_cmp v54 (Int32.toInt64 r48)) = 0 → (0 : Int32) = 1))))) ∧ (¬ v50 = r44 → (0 : Int32) = 1))) ∧ (∀ (E : String) (h9 : ev_AH), X E h9 → False)) ∧ (∀ (E : String) (h9 : ev_AH), X E h9 → False)) ∧ (((g_xs G (Int32.toNatClampNeg a4)) &&& 15) = 3 → (vp_in (a4 + 1) (g_sL G)) ∧ (vp_in (a4 + 2) (g_sL G)) ∧ (5 ≤ uc ∧ 30 ≤ us) ∧ ∃ (A : Int32 → ev_AH → Prop) (X : String → ev_AH → Prop), Mt l G M_W_pick [.ref a1, .int (g_xs G (Int32.toNatClampNeg (a4 + 1))), .int (g_xs G (Int32.toNatClampNeg (a4 + 2))), .ref a3] h (ev_pi A X) ∧ (∀ (r59 : Int32) (h58 : ev_AH), A r59 h58 → (vp_in (a4 + 1) (g_sL G)) ∧ (vp_in (a4 + 2) (g_sL G)) ∧ (∃ fs : List Value, h58 a2 = some (4, fs)) ∧ (0 ≤ (uc - 5) ∧ 0 ≤ (us - 30)) ∧ ∃ (A : Int32 → ev_AH → Prop) (X : String → ev_AH → Prop), Mt l G M_R_pick [.ref a2, .int (g_xs G (Int32.toNatClampNeg (a4 + 1))), .int (g_xs G (Int32.toNatClampNeg (a4 + 2)))] h58 (ev_pi A X) ∧ (∀ (r63 : Int32) (h62 : ev_AH), A r63 h62 → ∃ v65 : Int32, ev_f h62 a2 4 0 = some (.int v65) ∧ (∃ fs : List Value, h62 a2 = some (4, fs)) ∧ ((v65 = r59 → ((¬ r59 = 0 → ∀ x68 : Int32, x68 = a4 + 5 → Ev l G M_W_law 23 [(0, .ref ((g_sb G))), (1, .ref a1), (2, .ref a2), (3, .ref a3), (4, .int x68)] [] h62 (uc - 5) (us - 30) (lw_fin G)) ∧ (r59 = 0 → ∃ v69 : Int64, ¬ (0 : Int32) < 0 ∧ ev_f h62 a3 102 (Int32.toNatClampNeg 0) = some (.long v69) ∧ (((lg_cmp v69 (Int32.toInt64 r63)) = 0 → ∀ x70 : Int32, x70 = a4 + 5 → Ev l G M_W_law 23 [(0, .ref ((g_sb G))), (1, .ref a1), (2, .ref a2), (3, .ref a3), (4, .int x70)] [] h62 (uc - 5) (us - 30) (lw_fin G)) ∧ (¬ (lg_cmp v69 (Int32.toInt64 r63)) = 0 → (0 : Int32) = 1))))) ∧ (¬ v65 = r59 → (0 : Int32) = 1))) ∧ (∀ (E : String) (h9 : ev_AH), X E h9 → False)) ∧ (∀ (E : String) (h9 : ev_AH), X E h9 → False)) ∧ (((g_xs G (Int32.toNatClampNeg a4)) &&& 15) = 4 → (vp_in (a4 + 1) (g_sL G)) ∧ (2 ≤ uc ∧ 12 ≤ us) ∧ ∃ (A : Int32 → ev_AH → Prop) (X : String → ev_AH → Prop), Mt l G M_W_goOn [.ref a1, .int (g_xs G (Int32.toNatClampNeg (a4 + 1))), .ref a3] h (ev_pi A X) ∧ (∀ (r73 : Int32) (h72 : ev_AH), A r73 h72 → (vp_in (a4 + 1) (g_sL G)) ∧ (∃ fs : List Value, h72 a2 = some (4, fs)) ∧ (0 ≤ (uc - 2) ∧ 0 ≤ (us - 12)) ∧ ∃ (A : Int32 → ev_AH → Prop) (X : String → ev_AH → Prop), Mt l G M_R_goOn [.ref a2, .int (g_xs G (Int32.toNatClampNeg (a4 + 1)))] h72 (ev_pi A X) ∧ (∀ (r76 : Int32) (h75 : ev_AH), A r76 h75 → ∃ v78 : Int32, ev_f h75 a2 4 0 = some (.int v78) ∧ (∃ fs : List Value, h75 a2 = some (4, fs)) ∧ ((v78 = r73 → ((¬ r73 = 0 → ∀ x81 : Int32, x81 = a4 + 5 → Ev l G M_W_law 23 [(0, .ref ((g_sb G))), (1, .ref a1), (2, .ref a2), (3, .ref a3), (4, .int x81)] [] h75 (uc - 2) (us - 12) (lw_fin G)) ∧ (r73 = 0 → ∃ v82 : Int64, ¬ (0 : Int32) < 0 ∧ ev_f h75 a3 102 (Int32.toNatClampNeg 0) = some (.long v82) ∧ (((lg_cmp v82 (Int32.toInt64 r76)) = 0 → ∀ x83 : Int32, x83 = a4 + 5 → Ev l G M_W_law 23 [(0, .ref ((g_sb G))), (1, .ref a1), (2, .ref a2), (3, .ref a3), (4, .int x83)] [] h75 (uc - 2) (us - 12) (lw_fin G)) ∧ (¬ (lg_cmp v82 (Int32.toInt64 r76)) = 0 → (0 : Int32) = 1))))) ∧ (¬ v78 = r73 → (0 : Int32) = 1))) ∧ (∀ (E : String) (h9 : ev_AH), X E h9 → False)) ∧ (∀ (E : String) (h9 : ev_AH), X E h9 → False)) ∧ (((g_xs G (Int32.toNatClampNeg a4)) &&& 15) = 5 → (vp_in (a4 + 1) (g_sL G)) ∧ (vp_in (a4 + 2) (g_sL G)) ∧ (vp_in (a4 + 3) (g_sL G)) ∧ (8 ≤ uc ∧ 48 ≤ us) ∧ ∃ (A : Int32 → ev_AH → Prop) (X : String → ev_AH → Prop), Mt l G M_W_change [.ref a1, .int (g_xs G (Int32.toNatClampNeg (a4 + 1))), .int (g_xs G (Int32.toNatClampNeg (a4 + 2))), .int (g_xs G (Int32.toNatClampNeg (a4 + 3))), .ref a3] h (ev_pi A X) ∧ (∀ (r88 : Int32) (h87 : ev_AH), A r88 h87 → (vp_in (a4 + 1) (g_sL G)) ∧ (vp_in (a4 + 2) (g_sL G)) ∧ (vp_in (a4 + 3) (g_sL G)) ∧ (∃ fs : List Value, h87 a2 = some (4, fs)) ∧ (0 ≤ (uc - 8) ∧ 0 ≤ (us - 48)) ∧ ∃ (A : Int32 → ev_AH → Prop) (X : String → ev_AH → Prop), Mt l G M_R_change [.ref a2, .int (g_xs G (Int32.toNatClampNeg (a4 + 1))), .int (g_xs G (Int32.toNatClampNeg (a4 + 2))), .int (g_xs G (Int32.toNatClampNeg (a4 + 3)))] h87 (ev_pi A X) ∧ (∀ (r93 : Int32) (h92 : ev_AH), A r93 h92 → ∃ v95 : Int32, ev_f h92 a2 4 0 = some (.int v95) ∧ (∃ fs : List Value, h92 a2 = some (4, fs)) ∧ ((v95 = r88 → ((¬ r88 = 0 → ∀ x98 : Int32, x98 = a4 + 5 → Ev l G M_W_law 23 [(0, .ref ((g_sb G))), (1, .ref a1), (2, .ref a2), (3, .ref a3), (4, .int x98)] [] h92 (uc - 8) (us - 48) (lw_fin G)) ∧ (r88 = 0 → ∃ v99 : Int64, ¬ (0 : Int32) < 0 ∧ ev_f h92 a3 102 (Int32.toNatClampNeg 0) = some (.long v99) ∧ ∃ J101 : Int64 → Prop, J101 = (fun (j100 : Int64) => (((lg_cmp v99 j100) = 0 → ∀ x102 : Int32, x102 = a4 + 5 → Ev l G M_W_law 23 [(0, .ref ((g_sb G))), (1, .ref a1), (2, .ref a2), (3, .ref a3), (4, .int x102)] [] h92 (uc - 8) (us - 48) (lw_fin G)) ∧ (¬ (lg_cmp v99 j100) = 0 → (0 : Int32) = 1))) ∧ ((r93 = 0 → J101 0) ∧ (¬ r93 = 0 → J101 1))))) ∧ (¬ v95 = r88 → (0 : Int32) = 1))) ∧ (∀ (E : String) (h9 : ev_AH), X E h9 → False)) ∧ (∀ (E : String) (h9 : ev_AH), X E h9 → False)) ∧ (((g_xs G (Int32.toNatClampNeg a4)) &&& 15) = 6 → (vp_in (a4 + 1) (g_sL G)) ∧ (vp_in (a4 + 2) (g_sL G)) ∧ (2 ≤ uc ∧ 12 ≤ us) ∧ ∃ (A : Int32 → ev_AH → Prop) (X : String → ev_AH → Prop), Mt l G M_W_move [.ref a1, .int (g_xs G (Int32.toNatClampNeg (a4 + 1))), .int (g_xs G (Int32.toNatClampNeg (a4 + 2))), .ref a3] h (ev_pi A X) ∧ (∀ (r106 : Int32) (h105 : ev_AH), A r106 h105 → (vp_in (a4 + 1) (g_sL G)) ∧ (vp_in (a4 + 2) (g_sL G)) ∧ (∃ fs : List Value, h105 a2 = some (4, fs)) ∧ (0 ≤ (uc - 2) ∧ 0 ≤ (us - 12)) ∧ ∃ (A : Int32 → ev_AH → Prop) (X : String → ev_AH → Prop), Mt l G M_R_move [.ref a2, .int (g_xs G (Int32.toNatClampNeg (a4 + 1))), .int (g_xs G (Int32.toNatClampNeg (a4 + 2)))] h105 (ev_pi A X) ∧ (∀ (r110 : Int32) (h109 : ev_AH), A r110 h109 → ∃ v112 : Int32, ev_f h109 a2 4 0 = some (.int v112) ∧ (∃ fs : List Value, h109 a2 = some (4, fs)) ∧ ((v112 = r106 → ((¬ r106 = 0 → ∀ x115 : Int32, x115 = a4 + 5 → Ev l G M_W_law 23 [(0, .ref ((g_sb G))), (1, .ref a1), (2, .ref a2), (3, .ref a3), (4, .int x115)] [] h109 (uc - 2) (us - 12) (lw_fin G)) ∧ (r106 = 0 → ∃ v116 : Int64, ¬ (0 : Int32) < 0 ∧ ev_f h109 a3 102 (Int32.toNatClampNeg 0) = some (.long v116) ∧ ∃ J118 : Int64 → Prop, J118 = (fun (j117 : Int64) => (((lg_cmp v116 j117) = 0 → ∀ x119 : Int32, x119 = a4 + 5 → Ev l G M_W_law 23 [(0, .ref ((g_sb G))), (1, .ref a1), (2, .ref a2), (3, .ref a3), (4, .int x119)] [] h109 (uc - 2) (us - 12) (lw_fin G)) ∧ (¬ (lg_cmp v116 j117) = 0 → (0 : Int32) = 1))) ∧ ((r110 = 0 → J118 0) ∧ (¬ r110 = 0 → J118 1))))) ∧ (¬ v112 = r106 → (0 : Int32) = 1))) ∧ (∀ (E : String) (h9 : ev_AH), X E h9 → False)) ∧ (∀ (E : String) (h9 : ev_AH), X E h9 → False)) ∧ (((g_xs G (Int32.toNatClampNeg a4)) &&& 15) = 7 → (vp_in (a4 + 1) (g_sL G)) ∧ (3 ≤ uc ∧ 18 ≤ us) ∧ ∃ (A : Int32 → ev_AH → Prop) (X : String → ev_AH → Prop), Mt l G M_W_cancel [.ref a1, .int (g_xs G (Int32.toNatClampNeg (a4 + 1))), .ref a3] h (ev_pi A X) ∧ (∀ (r122 : Int32) (h121 : ev_AH), A r122 h121 → (vp_in (a4 + 1) (g_sL G)) ∧ (∃ fs : List Value, h121 a2 = some (4, fs)) ∧ (0 ≤ (uc - 3) ∧ 0 ≤ (us - 18)) ∧ ∃ (A : Int32 → ev_AH → Prop) (X : String → ev_AH → Prop), Mt l G M_R_cancel [.ref a2, .int (g_xs G (Int32.toNatClampNeg (a4 + 1)))] h121 (ev_pi A X) ∧ (∀ (r125 : Int32) (h124 : ev_AH), A r125 h124 → ∃ v127 : Int32, ev_f h124 a2 4 0 = some (.int v127) ∧ (∃ fs : List Value, h124 a2 = some (4, fs)) ∧ ((v127 = r122 → ((¬ r122 = 0 → ∀ x130 : Int32, x130 = a4 + 5 → Ev l G M_W_law 23 [(0, .ref ((g_sb G))), (1, .ref a1), (2, .ref a2), (3, .ref a3), (4, .int x130)] [] h124 (uc - 3) (us - 18) (lw_fin G)) ∧ (r122 = 0 → ∃ v131 : Int64, ¬ (0 : Int32) < 0 ∧ ev_f h124 a3 102 (Int32.toNatClampNeg 0) = some (.long v131) ∧ (((lg_cmp v131 (Int32.toInt64 r125)) = 0 → ∀ x132 : Int32, x132 = a4 + 5 → Ev l G M_W_law 23 [(0, .ref ((g_sb G))), (1, .ref a1), (2, .ref a2), (3, .ref a3), (4, .int x132)] [] h124 (uc - 3) (us - 18) (lw_fin G)) ∧ (¬ (lg_cmp v131 (Int32.toInt64 r125)) = 0 → (0 : Int32) = 1))))) ∧ (¬ v127 = r122 → (0 : Int32) = 1))) ∧ (∀ (E : String) (h9 : ev_AH), X E h9 → False)) ∧ (∀ (E : String) (h9 : ev_AH), X E h9 → False)) ∧ (((g_xs G (Int32.toNatClampNeg a4)) &&& 15) = 8 → (vp_in (a4 + 1) (g_sL G)) ∧ (vp_in (a4 + 2) (g_sL G)) ∧ (23 ≤ uc ∧ 842 ≤ us) ∧ ∃ (A : Int32 → ev_AH → Prop) (X : String → ev_AH → Prop), Mt l G M_W_join [.ref a1, .int (g_xs G (Int32.toNatClampNeg (a4 + 1))), .int (g_xs G (Int32.toNatClampNeg (a4 + 2)))] h (ev_pi A X) ∧ (∀ (r136 : Int32) (h135 : ev_AH), A r136 h135 → (vp_in (a4 + 1) (g_sL G)) ∧ (vp_in (a4 + 2) (g_sL G)) ∧ (∃ fs : List Value, h135 a2 = some (4, fs)) ∧ (0 ≤ (uc - 23) ∧ 0 ≤ (us - 842)) ∧ ∃ (A : ev_AH → Prop) (X : String → ev_AH → Prop), Mt l G M_R_join [.ref a2, .int (g_xs G (Int32.toNatClampNeg (a4 + 1))), .int (g_xs G (Int32.toNatClampNeg (a4 + 2)))] h135 (ev_pv A X) ∧ (∀ h139 : ev_AH, A h139 → ∃ v141 : Int32, ev_f h139 a2 4 0 = some (.int v141) ∧ (∃ fs : List Value, h139 a2 = some (4, fs)) ∧ ((v141 = r136 → ∀ x144 : Int32, x144 = a4 + 5 → Ev l G M_W_law 23 [(0, .ref ((g_sb G))), (1, .ref a1), (2, .ref a2), (3, .ref a3), (4, .int x144)] [] h139 (uc - 23) (us - 842) (lw_fin G)) ∧ (¬ v141 = r136 → (0 : Int32) = 1))) ∧ (∀ (E : String) (h9 : ev_AH), X E h9 → False)) ∧ (∀ (E : String) (h9 : ev_AH), X E h9 → False)) ∧ (((g_xs G (Int32.toNatClampNeg a4)) &&& 15) = 9 → (vp_in (a4 + 1) (g_sL G)) ∧ (vp_in (a4 + 2) (g_sL G)) ∧ (vp_in (a4 + 3) (g_sL G)) ∧ ∃ J149 : Int32 → Prop, J149 = (fun (j148 : Int32) => (4 ≤ uc ∧ 24 ≤ us) ∧ ∃ (A : Int32 → ev_AH → Prop) (X : String → ev_AH → Prop), Mt l G M_W_block [.ref a1, .int (g_xs G (Int32.toNatClampNeg (a4 + 1))), .int (g_xs G (Int32.toNatClampNeg (a4 + 2))), .int j148, .ref a3] h (ev_pi A X) ∧ (∀ (r151 : Int32) (h150 : ev_AH), A r151 h150 → (vp_in (a4 + 1) (g_sL G)) ∧ (vp_in (a4 + 2) (g_sL G)) ∧ (vp_in (a4 + 3) (g_sL G)) ∧ ∃ J156 : Int32 → Prop, J156 = (fun (j155 : Int32) => (∃ fs : List Value, h150 a2 = some (4, fs)) ∧ (0 ≤ (uc - 4) ∧ 0 ≤ (us - 24)) ∧ ∃ (A : Int32 → ev_AH → Prop) (X : String → ev_AH → Prop), Mt l G M_R_block [.ref a2, .int (g_xs G (Int32.toNatClampNeg (a4 + 1))), .int (g_xs G (Int32.toNatClampNeg (a4 + 2))), .int j155] h150 (ev_pi A X) ∧ (∀ (r158 : Int32) (h157 : ev_AH), A r158 h157 → ∃ v160 : Int32, ev_f h157 a2 4 0 = some (.int v160) ∧ (∃ fs : List Value, h157 a2 = some (4, fs)) ∧ ((v160 = r151 → ((¬ r151 = 0 → ∀ x163 : Int32, x163 = a4 + 5 → Ev l G M_W_law 23 [(0, .ref ((g_sb G))), (1, .ref a1), (2, .ref a2), (3, .ref a3), (4, .int x163)] [] h157 (uc - 4) (us - 24) (lw_fin G)) ∧ (r151 = 0 → ∃ v164 : Int64, ¬ (0 : Int32) < 0 ∧ ev_f h157 a3 102 (Int32.toNatClampNeg 0) = some (.long v164) ∧ (((lg_cmp v164 (Int32.toInt64 r158)) = 0 → ∀ x165 : Int32, x165 = a4 + 5 → Ev l G M_W_law 23 [(0, .ref ((g_sb G))), (1, .ref a1), (2, .ref a2), (3, .ref a3), (4, .int x165)] [] h157 (uc - 4) (us - 24) (lw_fin G)) ∧ (¬ (lg_cmp v164 (Int32.toInt64 r158)) = 0 → (0 : Int32) = 1))))) ∧ (¬ v160 = r151 → (0 : Int32) = 1))) ∧ (∀ (E : String) (h9 : ev_AH), X E h9 → False)) ∧ (((g_xs G (Int32.toNatClampNeg (a4 + 3))) = 0 → J156 0) ∧ (¬ (g_xs G (Int32.toNatClampNeg (a4 + 3))) = 0 → J156 1))) ∧ (∀ (E : String) (h9 : ev_AH), X E h9 → False)) ∧ (((g_xs G (Int32.toNatClampNeg (a4 + 3))) = 0 → J149 0) ∧ (¬ (g_xs G (Int32.toNatClampNeg (a4 + 3))) = 0 → J149 1))) ∧ (((g_xs G (Int32.toNatClampNeg a4)) &&& 15) = 10 → (vp_in (a4 + 1) (g_sL G)) ∧ (14 ≤ uc ∧ 354 ≤ us) ∧ ∃ (A : Int32 → ev_AH → Prop) (X : String → ev_AH → Prop), Mt l G M_W_backorder [.ref a1, .int (g_xs G (Int32.toNatClampNeg (a4 + 1))), .ref a3] h (ev_pi A X) ∧ (∀ (r168 : Int32) (h167 : ev_AH), A r168 h167 → (vp_in (a4 + 1) (g_sL G)) ∧ (∃ fs : List Value, h167 a2 = some (4, fs)) ∧ (0 ≤ (uc - 14) ∧ 0 ≤ (us - 354)) ∧ ∃ (A : Int32 → ev_AH → Prop) (X : String → ev_AH → Prop), Mt l G M_R_backorder [.ref a2, .int (g_xs G (Int32.toNatClampNeg (a4 + 1)))] h167 (ev_pi A X) ∧ (∀ (r171 : Int32) (h170 : ev_AH), A r171 h170 → ∃ v173 : Int32, ev_f h170 a2 4 0 = some (.int v173) ∧ (∃ fs : List Value, h170 a2 = some (4, fs)) ∧ ((v173 = r168 → ((¬ r168 = 0 → ∀ x176 : Int32, x176 = a4 + 5 → Ev l G M_W_law 23 [(0, .ref ((g_sb G))), (1, .ref a1), (2, .ref a2), (3, .ref a3), (4, .int x176)] [] h170 (uc - 14) (us - 354) (lw_fin G)) ∧ (r168 = 0 → ∃ v177 : Int64, ¬ (0 : Int32) < 0 ∧ ev_f h170 a3 102 (Int32.toNatClampNeg 0) = some (.long v177) ∧ (((lg_cmp v177 (Int32.toInt64 r171)) = 0 → ∀ x178 : Int32, x178 = a4 + 5 → Ev l G M_W_law 23 [(0, .ref ((g_sb G))), (1, .ref a1), (2, .ref a2), (3, .ref a3), (4, .int x178)] [] h170 (uc - 14) (us - 354) (lw_fin G)) ∧ (¬ (lg_cmp v177 (Int32.toInt64 r171)) = 0 → (0 : Int32) = 1))))) ∧ (¬ v173 = r168 → (0 : Int32) = 1))) ∧ (∀ (E : String) (h9 : ev_AH), X E h9 → False)) ∧ (∀ (E : String) (h9 : ev_AH), X E h9 → False)) ∧ (((g_xs G (Int32.toNatClampNeg a4)) &&& 15) = 11 → (vp_in (a4 + 1) (g_sL G)) ∧ (1 ≤ uc ∧ 6 ≤ us) ∧ ∃ (A : Int32 → ev_AH → Prop) (X : String → ev_AH → Prop), Mt l G M_W_ready [.ref a1, .int (g_xs G (Int32.toNatClampNeg (a4 + 1))), .ref a3] h (ev_pi A X) ∧ (∀ (r181 : Int32) (h180 : ev_AH), A r181 h180 → (vp_in (a4 + 1) (g_sL G)) ∧ (∃ fs : List Value, h180 a2 = some (4, fs)) ∧ (0 ≤ (uc - 1) ∧ 0 ≤ (us - 6)) ∧ ∃ (A : Int32 → ev_AH → Prop) (X : String → ev_AH → Prop), Mt l G M_R_ready [.ref a2, .int (g_xs G (Int32.toNatClampNeg (a4 + 1)))] h180 (ev_pi A X) ∧ (∀ (r184 : Int32) (h183 : ev_AH), A r184 h183 → ∃ v186 : Int32, ev_f h183 a2 4 0 = some (.int v186) ∧ (∃ fs : List Value, h183 a2 = some (4, fs)) ∧ ((v186 = r181 → ((¬ r181 = 0 → ∀ x189 : Int32, x189 = a4 + 5 → Ev l G M_W_law 23 [(0, .ref ((g_sb G))), (1, .ref a1), (2, .ref a2), (3, .ref a3), (4, .int x189)] [] h183 (uc - 1) (us - 6) (lw_fin G)) ∧ (r181 = 0 → ∃ v190 : Int64, ¬ (0 : Int32) < 0 ∧ ev_f h183 a3 102 (Int32.toNatClampNeg 0) = some (.long v190) ∧ (((lg_cmp v190 (Int32.toInt64 r184)) = 0 → ∀ x191 : Int32, x191 = a4 + 5 → Ev l G M_W_law 23 [(0, .ref ((g_sb G))), (1, .ref a1), (2, .ref a2), (3, .ref a3), (4, .int x191)] [] h183 (uc - 1) (us - 6) (lw_fin G)) ∧ (¬ (lg_cmp v190 (Int32.toInt64 r184)) = 0 → (0 : Int32) = 1))))) ∧ (¬ v186 = r181 → (0 : Int32) = 1))) ∧ (∀ (E : String) (h9 : ev_AH), X E h9 → False)) ∧ (∀ (E : String) (h9 : ev_AH), X E h9 → False)) ∧ (((g_xs G (Int32.toNatClampNeg a4)) &&& 15) = 12 → (vp_in (a4 + 1) (g_sL G)) ∧ (vp_in (a4 + 2) (g_sL G)) ∧ (2 ≤ uc ∧ 12 ≤ us) ∧ ∃ (A : Int32 → ev_AH → Prop) (X : String → ev_AH → Prop), Mt l G M_W_told [.ref a1, .int (g_xs G (Int32.toNatClampNeg (a4 + 1))), .int (g_xs G (Int32.toNatClampNeg (a4 + 2))), .ref a3] h (ev_pi A X) ∧ (∀ (r195 : Int32) (h194 : ev_AH), A r195 h194 → (vp_in (a4 + 1) (g_sL G)) ∧ (vp_in (a4 + 2) (g_sL G)) ∧ (∃ fs : List Value, h194 a2 = some (4, fs)) ∧ (0 ≤ (uc - 2) ∧ 0 ≤ (us - 12)) ∧ ∃ (A : Int32 → ev_AH → Prop) (X : String → ev_AH → Prop), Mt l G M_R_told [.ref a2, .int (g_xs G (Int32.toNatClampNeg (a4 + 1))), .int (g_xs G (Int32.toNatClampNeg (a4 + 2)))] h194 (ev_pi A X) ∧ (∀ (r199 : Int32) (h198 : ev_AH), A r199 h198 → ∃ v201 : Int32, ev_f h198 a2 4 0 = some (.int v201) ∧ (∃ fs : List Value, h198 a2 = some (4, fs)) ∧ ((v201 = r195 → ((¬ r195 = 0 → ∀ x204 : Int32, x204 = a4 + 5 → Ev l G M_W_law 23 [(0, .ref ((g_sb G))), (1, .ref a1), (2, .ref a2), (3, .ref a3), (4, .int x204)] [] h198 (uc - 2) (us - 12) (lw_fin G)) ∧ (r195 = 0 → ∃ v205 : Int64, ¬ (0 : Int32) < 0 ∧ ev_f h198 a3 102 (Int32.toNatClampNeg 0) = some (.long v205) ∧ (((lg_cmp v205 (Int32.toInt64 r199)) = 0 → ∀ x206 : Int32, x206 = a4 + 5 → Ev l G M_W_law 23 [(0, .ref ((g_sb G))), (1, .ref a1), (2, .ref a2), (3, .ref a3), (4, .int x206)] [] h198 (uc - 2) (us - 12) (lw_fin G)) ∧ (¬ (lg_cmp v205 (Int32.toInt64 r199)) = 0 → (0 : Int32) = 1))))) ∧ (¬ v201 = r195 → (0 : Int32) = 1))) ∧ (∀ (E : String) (h9 : ev_AH), X E h9 → False)) ∧ (∀ (E : String) (h9 : ev_AH), X E h9 → False)) ∧ (((g_xs G (Int32.toNatClampNeg a4)) &&& 15) = 13 → (vp_in (a4 + 1) (g_sL G)) ∧ (vp_in (a4 + 2) (g_sL G)) ∧ (2 ≤ uc ∧ 12 ≤ us) ∧ ∃ (A : Int32 → ev_AH → Prop) (X : String → ev_AH → Prop), Mt l G M_W_lineOf [.ref a1, .int (g_xs G (Int32.toNatClampNeg (a4 + 1))), .int (g_xs G (Int32.toNatClampNeg (a4 + 2))), .ref a3] h (ev_pi A X) ∧ (∀ (r210 : Int32) (h209 : ev_AH), A r210 h209 → (vp_in (a4 + 1) (g_sL G)) ∧ (vp_in (a4 + 2) (g_sL G)) ∧ (∃ fs : List Value, h209 a2 = some (4, fs)) ∧ (0 ≤ (uc - 2) ∧ 0 ≤ (us - 12)) ∧ ∃ (A : Int32 → ev_AH → Prop) (X : String → ev_AH → Prop), Mt l G M_R_lineOf [.ref a2, .int (g_xs G (Int32.toNatClampNeg (a4 + 1))), .int (g_xs G (Int32.toNatClampNeg (a4 + 2)))] h209 (ev_pi A X) ∧ (∀ (r214 : Int32) (h213 : ev_AH), A r214 h213 → ∃ v216 : Int32, ev_f h213 a2 4 0 = some (.int v216) ∧ (∃ fs : List Value, h213 a2 = some (4, fs)) ∧ ((v216 = r210 → ((¬ r210 = 0 → ∀ x219 : Int32, x219 = a4 + 5 → Ev l G M_W_law 23 [(0, .ref ((g_sb G))), (1, .ref a1), (2, .ref a2), (3, .ref a3), (4, .int x219)] [] h213 (uc - 2) (us - 12) (lw_fin G)) ∧ (r210 = 0 → ∃ v220 : Int64, ¬ (0 : Int32) < 0 ∧ ev_f h213 a3 102 (Int32.toNatClampNeg 0) = some (.long v220) ∧ (((lg_cmp v220 (Int32.toInt64 r214)) = 0 → ∀ x221 : Int32, x221 = a4 + 5 → Ev l G M_W_law 23 [(0, .ref ((g_sb G))), (1, .ref a1), (2, .ref a2), (3, .ref a3), (4, .int x221)] [] h213 (uc - 2) (us - 12) (lw_fin G)) ∧ (¬ (lg_cmp v220 (Int32.toInt64 r214)) = 0 → (0 : Int32) = 1))))) ∧ (¬ v216 = r210 → (0 : Int32) = 1))) ∧ (∀ (E : String) (h9 : ev_AH), X E h9 → False)) ∧ (∀ (E : String) (h9 : ev_AH), X E h9 → False)) ∧ (((g_xs G (Int32.toNatClampNeg a4)) &&& 15) = 14 → (vp_in (a4 + 1) (g_sL G)) ∧ (1 ≤ uc ∧ 6 ≤ us) ∧ ∃ (A : Int32 → ev_AH → Prop) (X : String → ev_AH → Prop), Mt l G M_W_packed [.ref a1, .int (g_xs G (Int32.toNatClampNeg (a4 + 1))), .ref a3] h (ev_pi A X) ∧ (∀ (r224 : Int32) (h223 : ev_AH), A r224 h223 → (vp_in (a4 + 1) (g_sL G)) ∧ (∃ fs : List Value, h223 a2 = some (4, fs)) ∧ (0 ≤ (uc - 1) ∧ 0 ≤ (us - 6)) ∧ ∃ (A : Int64 → ev_AH → Prop) (X : String → ev_AH → Prop), Mt l G M_R_packed [.ref a2, .int (g_xs G (Int32.toNatClampNeg (a4 + 1)))] h223 (ev_pl A X) ∧ (∀ (r227 : Int64) (h226 : ev_AH), A r227 h226 → ∃ v229 : Int32, ev_f h226 a2 4 0 = some (.int v229) ∧ (∃ fs : List Value, h226 a2 = some (4, fs)) ∧ ((v229 = r224 → ((¬ r224 = 0 → ∀ x232 : Int32, x232 = a4 + 5 → Ev l G M_W_law 23 [(0, .ref ((g_sb G))), (1, .ref a1), (2, .ref a2), (3, .ref a3), (4, .int x232)] [] h226 (uc - 1) (us - 6) (lw_fin G)) ∧ (r224 = 0 → ∃ v233 : Int64, ¬ (0 : Int32) < 0 ∧ ev_f h226 a3 102 (Int32.toNatClampNeg 0) = some (.long v233) ∧ (((lg_cmp v233 r227) = 0 → ∀ x234 : Int32, x234 = a4 + 5 → Ev l G M_W_law 23 [(0, .ref ((g_sb G))), (1, .ref a1), (2, .ref a2), (3, .ref a3), (4, .int x234)] [] h226 (uc - 1) (us - 6) (lw_fin G)) ∧ (¬ (lg_cmp v233 r227) = 0 → (0 : Int32) = 1))))) ∧ (¬ v229 = r224 → (0 : Int32) = 1))) ∧ (∀ (E : String) (h9 : ev_AH), X E h9 → False)) ∧ (∀ (E : String) (h9 : ev_AH), X E h9 → False)) ∧ (((g_xs G (Int32.toNatClampNeg a4)) &&& 15) = 15 → (vp_in (a4 + 1) (g_sL G)) ∧ (∃ fs : List Value, h a1 = some (0, fs)) ∧ (0 ≤ uc ∧ 0 ≤ us) ∧ ∃ (A : Int32 → ev_AH → Prop) (X : String → ev_AH → Prop), Mt l G M_X_count [.ref a1, .int (g_xs G (Int32.toNatClampNeg (a4 + 1)))] h (ev_pi A X) ∧ (∀ (r237 : Int32) (h236 : ev_AH), A r237 h236 → (vp_in (a4 + 1) (g_sL G)) ∧ (∃ fs : List Value, h236 a2 = some (4, fs)) ∧ (0 ≤ uc ∧ 0 ≤ us) ∧ ∃ (A : Int32 → ev_AH → Prop) (X : String → ev_AH → Prop), Mt l G M_R_count [.ref a2, .int (g_xs G (Int32.toNatClampNeg (a4 + 1)))] h236 (ev_pi A X) ∧ (∀ (r240 : Int32) (h239 : ev_AH), A r240 h239 → ((r237 = r240 → ∀ x241 : Int32, x241 = a4 + 5 → Ev l G M_W_law 23 [(0, .ref ((g_sb G))), (1, .ref a1), (2, .ref a2), (3, .ref a3), (4, .int x241)] [] h239 uc us (lw_fin G)) ∧ (¬ r237 = r240 → (0 : Int32) = 1))) ∧ (∀ (E : String) (h9 : ev_AH), X E h9 → False)) ∧ (∀ (E : String) (h9 : ev_AH), X E h9 → False)) ∧ ((¬ ((g_xs G (Int32.toNatClampNeg a4)) &&& 15) = 0 ∧ ¬ ((g_xs G (Int32.toNatClampNeg a4)) &&& 15) = 1 ∧ ¬ ((g_xs G (Int32.toNatClampNeg a4)) &&& 15) = 2 ∧ ¬ ((g_xs G (Int32.toNatClampNeg a4)) &&& 15) = 3 ∧ ¬ ((g_xs G (Int32.toNatClampNeg a4)) &&& 15) = 4 ∧ ¬ ((g_xs G (Int32.toNatClampNeg a4)) &&& 15) = 5 ∧ ¬ ((g_xs G (Int32.toNatClampNeg a4)) &&& 15) = 6 ∧ ¬ ((g_xs G (Int32.toNatClampNeg a4)) &&& 15) = 7 ∧ ¬ ((g_xs G (Int32.toNatClampNeg a4)) &&& 15) = 8 ∧ ¬ ((g_xs G (Int32.toNatClampNeg a4)) &&& 15) = 9 ∧ ¬ ((g_xs G (Int32.toNatClampNeg a4)) &&& 15) = 10 ∧ ¬ ((g_xs G (Int32.toNatClampNeg a4)) &&& 15) = 11 ∧ ¬ ((g_xs G (Int32.toNatClampNeg a4)) &&& 15) = 12 ∧ ¬ ((g_xs G (Int32.toNatClampNeg a4)) &&& 15) = 13 ∧ ¬ ((g_xs G (Int32.toNatClampNeg a4)) &&& 15) = 14 ∧ ¬ ((g_xs G (Int32.toNatClampNeg a4)) &&& 15) = 15) → ∀ x242 : Int32, x242 = a4 + 5 → Ev l G M_W_law 23 [(0, .ref ((g_sb G))), (1, .ref a1), (2, .ref a2), (3, .ref a3), (4, .int x242)] [] h uc us (lw_fin G)))))) : Ev l G M_W_law 23 [(0, .ref ((g_sb G))), (1, .ref a1), (2, .ref a2), (3, .ref a3), (4, .int a4)] [] h uc us (lw_fin G) := by
  refine e_iload fW_law_23 4 rfl ?_
  refine e_aload_n fW_law_25 rfl 0 rfl ?_
  refine e_slen fW_law_26 ?_
  refine e_iconst (v := 5) fW_law_27 (by decide) ?_
  refine e_isub fW_law_28 ?_
  refine e_icmp_gt (tgt := 1188) fW_law_29 (by decide) (fun z => ?_) (fun z => ?_)
  · have V := V.1 z
    refine e_iconst (v := 1) fW_law_1188 (by decide) ?_
    exact e_lawret fW_law_1189 V
  · have V := V.2 z
    refine e_aload_n fW_law_32 rfl 0 rfl ?_
    refine e_iload fW_law_33 4 rfl ?_
    obtain ⟨gi, V⟩ := V
    refine e_sld fW_law_35 gi ?_
    refine e_bipush (v := 15) fW_law_36 (by decide) ?_
    refine e_iand fW_law_38 ?_
    by_cases z0 : ((g_xs G (Int32.toNatClampNeg a4)) &&& 15) = 0
    · have V := V.1 z0
      refine e_tin (tgt := 116) fW_law_39 (by rw [z0]; decide) (by rw [z0]; decide) (by rw [z0]; rfl) (by decide) ?_
      refine e_aload_n fW_law_116 rfl 1 rfl ?_
      refine e_aload_n fW_law_117 rfl 0 rfl ?_
      refine e_iload fW_law_118 4 rfl ?_
      refine e_iconst (v := 1) fW_law_120 (by decide) ?_
      refine e_iadd fW_law_121 ?_
      obtain ⟨gi, V⟩ := V
      refine e_sld fW_law_122 gi ?_
      refine e_aload_n fW_law_123 rfl 0 rfl ?_
      refine e_iload fW_law_124 4 rfl ?_
      refine e_iconst (v := 2) fW_law_126 (by decide) ?_
      refine e_iadd fW_law_127 ?_
      obtain ⟨gi, V⟩ := V
      refine e_sld fW_law_128 gi ?_
      refine e_aload_n fW_law_129 rfl 0 rfl ?_
      refine e_iload fW_law_130 4 rfl ?_
      refine e_iconst (v := 3) fW_law_132 (by decide) ?_
      refine e_iadd fW_law_133 ?_
      obtain ⟨gi, V⟩ := V
      refine e_sld fW_law_134 gi ?_
      refine e_aload_n fW_law_135 rfl 0 rfl ?_
      refine e_iload fW_law_136 4 rfl ?_
      refine e_iconst (v := 4) fW_law_138 (by decide) ?_
      refine e_iadd fW_law_139 ?_
      obtain ⟨gi, V⟩ := V
      refine e_sld fW_law_140 gi ?_
      refine e_aload_n fW_law_141 rfl 3 rfl ?_
      obtain ⟨⟨bc, bs⟩, V⟩ := V
      obtain ⟨A, X, hm, V, VX⟩ := V
      refine e_callWi (uc' := (uc - 9)) (us' := (us - 143)) (st := []) fW_law_142 wW_law_142 rfl rfl hm (Nat.le_of_ble_eq_true rfl) (by show 9 + _ ≤ _; omega) (by show 143 + _ ≤ _; omega) (fun r8 h7 ga => ?_) (fun E h7 gx => ?_)
      · have V := V _ _ ga
        refine e_istore (ls' := [(5, .int r8), (0, .ref ((g_sb G))), (1, .ref a1), (2, .ref a2), (3, .ref a3), (4, .int a4)]) fW_law_145 (by decide) rfl ?_
        refine e_aload_n fW_law_147 rfl 3 rfl ?_
        refine e_aload_n fW_law_148 rfl 1 rfl ?_
        refine e_iload fW_law_149 5 rfl ?_
        refine e_iconst (v := 1) fW_law_151 (by decide) ?_
        refine e_iadd fW_law_152 ?_
        obtain ⟨gi, V⟩ := V
        refine e_sld fW_law_153 gi ?_
        refine e_aload_n fW_law_154 rfl 1 rfl ?_
        refine e_iload fW_law_155 5 rfl ?_
        refine e_iconst (v := 2) fW_law_157 (by decide) ?_
        refine e_iadd fW_law_158 ?_
        obtain ⟨gi, V⟩ := V
        refine e_sld fW_law_159 gi ?_
        refine e_aload_n fW_law_160 rfl 1 rfl ?_
        refine e_iload fW_law_161 5 rfl ?_
        refine e_iconst (v := 3) fW_law_163 (by decide) ?_
        refine e_iadd fW_law_164 ?_
        obtain ⟨gi, V⟩ := V
        refine e_sld fW_law_165 gi ?_
        refine e_aload_n fW_law_166 rfl 1 rfl ?_
        refine e_iload fW_law_167 5 rfl ?_
        refine e_iconst (v := 4) fW_law_169 (by decide) ?_
        refine e_iadd fW_law_170 ?_
        obtain ⟨gi, V⟩ := V
        refine e_sld fW_law_171 gi ?_
        obtain ⟨gc, V⟩ := V
        obtain ⟨⟨bc, bs⟩, V⟩ := V
        obtain ⟨A, X, hm, V, VX⟩ := V
        refine e_callVi (uc' := (uc - 9)) (us' := (us - 143)) (st := []) fW_law_172 wW_law_172 rfl rfl gc hm (Nat.le_of_ble_eq_true rfl) (by show 0 + _ ≤ _; omega) (by show 0 + _ ≤ _; omega) (fun r14 h13 ga => ?_) (fun E h13 gx => ?_)
        · have V := V _ _ ga
          refine e_istore (ls' := [(6, .int r14), (5, .int r8), (0, .ref ((g_sb G))), (1, .ref a1), (2, .ref a2), (3, .ref a3), (4, .int a4)]) fW_law_175 (by decide) rfl ?_
          refine e_aload_n fW_law_177 rfl 4 rfl ?_
          obtain ⟨v16, gv16, V⟩ := V
          obtain ⟨gc, V⟩ := V
          refine e_callVi (uc' := (uc - 9)) (us' := (us - 143)) (st := []) fW_law_178 wW_law_178 rfl rfl gc (sp_R_thrown gv16) (Nat.le_of_ble_eq_true rfl) (by show 0 + _ ≤ _; omega) (by show 0 + _ ≤ _; omega) (fun r18 h17 ga => ?_) (fun E h17 gx => False.elim gx)
          obtain ⟨rfl, ge⟩ := ga
          replace ge := ge.symm
          subst ge
          refine e_iload fW_law_181 1 rfl ?_
          refine e_icmp_eq (tgt := 188) fW_law_183 (by decide) (fun z => ?_) (fun z => ?_)
          · have V := V.1 z
            refine e_iload fW_law_188 1 rfl ?_
            refine e_if_ne (tgt := 205) fW_law_190 (by decide) (fun z => ?_) (fun z => ?_)
            · have V := V.1 z
              refine e_goto (tgt := 1182) fW_law_205 (by decide) ?_
              obtain ⟨x19, ex19⟩ : ∃ z : Int32, z = a4 + 5 := ⟨_, rfl⟩
              have V := V x19 ex19
              refine e_iinc (v := x19) (k := 6) (ls' := [(4, .int x19), (6, .int r14), (5, .int r8), (0, .ref ((g_sb G))), (1, .ref a1), (2, .ref a2), (3, .ref a3)]) fW_law_1182 rfl (by rw [ex19]; rfl) (by decide) rfl ?_
              refine e_goto (tgt := 23) fW_law_1185 (by decide) ?_
              exact Ev.loc [3, 4, 5, 6, 0] rfl V
            · have V := V.2 z
              refine e_aload_n fW_law_193 rfl 5 rfl ?_
              refine e_iconst (v := 0) fW_law_194 (by decide) ?_
              obtain ⟨v20, g0, gv20, V⟩ := V
              refine e_lald fW_law_195 g0 gv20 ?_
              refine e_iload fW_law_196 0 rfl ?_
              refine e_i2l fW_law_198 rfl ?_
              refine e_lcmp fW_law_199 ?_
              refine e_if_eq (tgt := 205) fW_law_200 (by decide) (fun z => ?_) (fun z => ?_)
              · have V := V.1 z
                refine e_goto (tgt := 1182) fW_law_205 (by decide) ?_
                obtain ⟨x21, ex21⟩ : ∃ z : Int32, z = a4 + 5 := ⟨_, rfl⟩
                have V := V x21 ex21
                refine e_iinc (v := x21) (k := 6) (ls' := [(4, .int x21), (6, .int r14), (5, .int r8), (0, .ref ((g_sb G))), (1, .ref a1), (2, .ref a2), (3, .ref a3)]) fW_law_1182 rfl (by rw [ex21]; rfl) (by decide) rfl ?_
                refine e_goto (tgt := 23) fW_law_1185 (by decide) ?_
                exact Ev.loc [3, 4, 5, 6, 0] rfl V
              · have V := V.2 z
                refine e_iconst (v := 0) fW_law_203 (by decide) ?_
                exact e_lawret fW_law_204 V
          · have V := V.2 z
            refine e_iconst (v := 0) fW_law_186 (by decide) ?_
            exact e_lawret fW_law_187 V
        · exact (VX E _ gx).elim
      · exact (VX E _ gx).elim
    by_cases z1 : ((g_xs G (Int32.toNatClampNeg a4)) &&& 15) = 1
    · have V := V.2.1 z1
      refine e_tin (tgt := 208) fW_law_39 (by rw [z1]; decide) (by rw [z1]; decide) (by rw [z1]; rfl) (by decide) ?_
      refine e_aload_n fW_law_208 rfl 1 rfl ?_
      refine e_aload_n fW_law_209 rfl 0 rfl ?_
      refine e_iload fW_law_210 4 rfl ?_
      refine e_iconst (v := 1) fW_law_212 (by decide) ?_
      refine e_iadd fW_law_213 ?_
      obtain ⟨gi, V⟩ := V
      refine e_sld fW_law_214 gi ?_
      refine e_aload_n fW_law_215 rfl 0 rfl ?_
      refine e_iload fW_law_216 4 rfl ?_
      refine e_iconst (v := 2) fW_law_218 (by decide) ?_
      refine e_iadd fW_law_219 ?_
      obtain ⟨gi, V⟩ := V
      refine e_sld fW_law_220 gi ?_
      refine e_aload_n fW_law_221 rfl 0 rfl ?_
      refine e_iload fW_law_222 4 rfl ?_
      refine e_iconst (v := 3) fW_law_224 (by decide) ?_
      refine e_iadd fW_law_225 ?_
      obtain ⟨gi, V⟩ := V
      refine e_sld fW_law_226 gi ?_
      refine e_aload_n fW_law_227 rfl 0 rfl ?_
      refine e_iload fW_law_228 4 rfl ?_
      refine e_iconst (v := 4) fW_law_230 (by decide) ?_
      refine e_iadd fW_law_231 ?_
      obtain ⟨gi, V⟩ := V
      refine e_sld fW_law_232 gi ?_
      refine e_aload_n fW_law_233 rfl 3 rfl ?_
      obtain ⟨⟨bc, bs⟩, V⟩ := V
      obtain ⟨A, X, hm, V, VX⟩ := V
      refine e_callWi (uc' := (uc - 12)) (us' := (us - 253)) (st := []) fW_law_234 wW_law_234 rfl rfl hm (Nat.le_of_ble_eq_true rfl) (by show 12 + _ ≤ _; omega) (by show 253 + _ ≤ _; omega) (fun r27 h26 ga => ?_) (fun E h26 gx => ?_)
      · have V := V _ _ ga
        refine e_istore (ls' := [(5, .int r27), (0, .ref ((g_sb G))), (1, .ref a1), (2, .ref a2), (3, .ref a3), (4, .int a4)]) fW_law_237 (by decide) rfl ?_
        refine e_aload_n fW_law_239 rfl 3 rfl ?_
        refine e_aload_n fW_law_240 rfl 1 rfl ?_
        refine e_iload fW_law_241 5 rfl ?_
        refine e_iconst (v := 1) fW_law_243 (by decide) ?_
        refine e_iadd fW_law_244 ?_
        obtain ⟨gi, V⟩ := V
        refine e_sld fW_law_245 gi ?_
        refine e_aload_n fW_law_246 rfl 1 rfl ?_
        refine e_iload fW_law_247 5 rfl ?_
        refine e_iconst (v := 2) fW_law_249 (by decide) ?_
        refine e_iadd fW_law_250 ?_
        obtain ⟨gi, V⟩ := V
        refine e_sld fW_law_251 gi ?_
        refine e_aload_n fW_law_252 rfl 1 rfl ?_
        refine e_iload fW_law_253 5 rfl ?_
        refine e_iconst (v := 3) fW_law_255 (by decide) ?_
        refine e_iadd fW_law_256 ?_
        obtain ⟨gi, V⟩ := V
        refine e_sld fW_law_257 gi ?_
        refine e_aload_n fW_law_258 rfl 1 rfl ?_
        refine e_iload fW_law_259 5 rfl ?_
        refine e_iconst (v := 4) fW_law_261 (by decide) ?_
        refine e_iadd fW_law_262 ?_
        obtain ⟨gi, V⟩ := V
        refine e_sld fW_law_263 gi ?_
        obtain ⟨gc, V⟩ := V
        obtain ⟨⟨bc, bs⟩, V⟩ := V
        obtain ⟨A, X, hm, V, VX⟩ := V
        refine e_callVi (uc' := (uc - 12)) (us' := (us - 253)) (st := []) fW_law_264 wW_law_264 rfl rfl gc hm (Nat.le_of_ble_eq_true rfl) (by show 0 + _ ≤ _; omega) (by show 0 + _ ≤ _; omega) (fun r33 h32 ga => ?_) (fun E h32 gx => ?_)
        · have V := V _ _ ga
          refine e_istore (ls' := [(6, .int r33), (5, .int r27), (0, .ref ((g_sb G))), (1, .ref a1), (2, .ref a2), (3, .ref a3), (4, .int a4)]) fW_law_267 (by decide) rfl ?_
          refine e_aload_n fW_law_269 rfl 4 rfl ?_
          obtain ⟨v35, gv35, V⟩ := V
          obtain ⟨gc, V⟩ := V
          refine e_callVi (uc' := (uc - 12)) (us' := (us - 253)) (st := []) fW_law_270 wW_law_270 rfl rfl gc (sp_R_thrown gv35) (Nat.le_of_ble_eq_true rfl) (by show 0 + _ ≤ _; omega) (by show 0 + _ ≤ _; omega) (fun r37 h36 ga => ?_) (fun E h36 gx => False.elim gx)
          obtain ⟨rfl, ge⟩ := ga
          replace ge := ge.symm
          subst ge
          refine e_iload fW_law_273 1 rfl ?_
          refine e_icmp_eq (tgt := 280) fW_law_275 (by decide) (fun z => ?_) (fun z => ?_)
          · have V := V.1 z
            refine e_iload fW_law_280 1 rfl ?_
            refine e_if_ne (tgt := 297) fW_law_282 (by decide) (fun z => ?_) (fun z => ?_)
            · have V := V.1 z
              refine e_goto (tgt := 1182) fW_law_297 (by decide) ?_
              obtain ⟨x38, ex38⟩ : ∃ z : Int32, z = a4 + 5 := ⟨_, rfl⟩
              have V := V x38 ex38
              refine e_iinc (v := x38) (k := 6) (ls' := [(4, .int x38), (6, .int r33), (5, .int r27), (0, .ref ((g_sb G))), (1, .ref a1), (2, .ref a2), (3, .ref a3)]) fW_law_1182 rfl (by rw [ex38]; rfl) (by decide) rfl ?_
              refine e_goto (tgt := 23) fW_law_1185 (by decide) ?_
              exact Ev.loc [3, 4, 5, 6, 0] rfl V
            · have V := V.2 z
              refine e_aload_n fW_law_285 rfl 5 rfl ?_
              refine e_iconst (v := 0) fW_law_286 (by decide) ?_
              obtain ⟨v39, g0, gv39, V⟩ := V
              refine e_lald fW_law_287 g0 gv39 ?_
              refine e_iload fW_law_288 0 rfl ?_
              refine e_i2l fW_law_290 rfl ?_
              refine e_lcmp fW_law_291 ?_
              refine e_if_eq (tgt := 297) fW_law_292 (by decide) (fun z => ?_) (fun z => ?_)
              · have V := V.1 z
                refine e_goto (tgt := 1182) fW_law_297 (by decide) ?_
                obtain ⟨x40, ex40⟩ : ∃ z : Int32, z = a4 + 5 := ⟨_, rfl⟩
                have V := V x40 ex40
                refine e_iinc (v := x40) (k := 6) (ls' := [(4, .int x40), (6, .int r33), (5, .int r27), (0, .ref ((g_sb G))), (1, .ref a1), (2, .ref a2), (3, .ref a3)]) fW_law_1182 rfl (by rw [ex40]; rfl) (by decide) rfl ?_
                refine e_goto (tgt := 23) fW_law_1185 (by decide) ?_
                exact Ev.loc [3, 4, 5, 6, 0] rfl V
              · have V := V.2 z
                refine e_iconst (v := 0) fW_law_295 (by decide) ?_
                exact e_lawret fW_law_296 V
          · have V := V.2 z
            refine e_iconst (v := 0) fW_law_278 (by decide) ?_
            exact e_lawret fW_law_279 V
        · exact (VX E _ gx).elim
      · exact (VX E _ gx).elim
    by_cases z2 : ((g_xs G (Int32.toNatClampNeg a4)) &&& 15) = 2
    · have V := V.2.2.1 z2
      refine e_tin (tgt := 300) fW_law_39 (by rw [z2]; decide) (by rw [z2]; decide) (by rw [z2]; rfl) (by decide) ?_
      refine e_aload_n fW_law_300 rfl 1 rfl ?_
      refine e_aload_n fW_law_301 rfl 0 rfl ?_
      refine e_iload fW_law_302 4 rfl ?_
      refine e_iconst (v := 1) fW_law_304 (by decide) ?_
      refine e_iadd fW_law_305 ?_
      obtain ⟨gi, V⟩ := V
      refine e_sld fW_law_306 gi ?_
      refine e_aload_n fW_law_307 rfl 0 rfl ?_
      refine e_iload fW_law_308 4 rfl ?_
      refine e_iconst (v := 2) fW_law_310 (by decide) ?_
      refine e_iadd fW_law_311 ?_
      obtain ⟨gi, V⟩ := V
      refine e_sld fW_law_312 gi ?_
      refine e_aload_n fW_law_313 rfl 3 rfl ?_
      obtain ⟨⟨bc, bs⟩, V⟩ := V
      obtain ⟨A, X, hm, V, VX⟩ := V
      refine e_callWi (uc' := (uc - 5)) (us' := (us - 30)) (st := []) fW_law_314 wW_law_314 rfl rfl hm (Nat.le_of_ble_eq_true rfl) (by show 5 + _ ≤ _; omega) (by show 30 + _ ≤ _; omega) (fun r44 h43 ga => ?_) (fun E h43 gx => ?_)
      · have V := V _ _ ga
        refine e_istore (ls' := [(5, .int r44), (0, .ref ((g_sb G))), (1, .ref a1), (2, .ref a2), (3, .ref a3), (4, .int a4)]) fW_law_317 (by decide) rfl ?_
        refine e_aload_n fW_law_319 rfl 3 rfl ?_
        refine e_aload_n fW_law_320 rfl 1 rfl ?_
        refine e_iload fW_law_321 5 rfl ?_
        refine e_iconst (v := 1) fW_law_323 (by decide) ?_
        refine e_iadd fW_law_324 ?_
        obtain ⟨gi, V⟩ := V
        refine e_sld fW_law_325 gi ?_
        refine e_aload_n fW_law_326 rfl 1 rfl ?_
        refine e_iload fW_law_327 5 rfl ?_
        refine e_iconst (v := 2) fW_law_329 (by decide) ?_
        refine e_iadd fW_law_330 ?_
        obtain ⟨gi, V⟩ := V
        refine e_sld fW_law_331 gi ?_
        obtain ⟨gc, V⟩ := V
        obtain ⟨⟨bc, bs⟩, V⟩ := V
        obtain ⟨A, X, hm, V, VX⟩ := V
        refine e_callVi (uc' := (uc - 5)) (us' := (us - 30)) (st := []) fW_law_332 wW_law_332 rfl rfl gc hm (Nat.le_of_ble_eq_true rfl) (by show 0 + _ ≤ _; omega) (by show 0 + _ ≤ _; omega) (fun r48 h47 ga => ?_) (fun E h47 gx => ?_)
        · have V := V _ _ ga
          refine e_istore (ls' := [(6, .int r48), (5, .int r44), (0, .ref ((g_sb G))), (1, .ref a1), (2, .ref a2), (3, .ref a3), (4, .int a4)]) fW_law_335 (by decide) rfl ?_
          refine e_aload_n fW_law_337 rfl 4 rfl ?_
          obtain ⟨v50, gv50, V⟩ := V
          obtain ⟨gc, V⟩ := V
          refine e_callVi (uc' := (uc - 5)) (us' := (us - 30)) (st := []) fW_law_338 wW_law_338 rfl rfl gc (sp_R_thrown gv50) (Nat.le_of_ble_eq_true rfl) (by show 0 + _ ≤ _; omega) (by show 0 + _ ≤ _; omega) (fun r52 h51 ga => ?_) (fun E h51 gx => False.elim gx)
          obtain ⟨rfl, ge⟩ := ga
          replace ge := ge.symm
          subst ge
          refine e_iload fW_law_341 1 rfl ?_
          refine e_icmp_eq (tgt := 348) fW_law_343 (by decide) (fun z => ?_) (fun z => ?_)
          · have V := V.1 z
            refine e_iload fW_law_348 1 rfl ?_
            refine e_if_ne (tgt := 365) fW_law_350 (by decide) (fun z => ?_) (fun z => ?_)
            · have V := V.1 z
              refine e_goto (tgt := 1182) fW_law_365 (by decide) ?_
              obtain ⟨x53, ex53⟩ : ∃ z : Int32, z = a4 + 5 := ⟨_, rfl⟩
              have V := V x53 ex53
              refine e_iinc (v := x53) (k := 6) (ls' := [(4, .int x53), (6, .int r48), (5, .int r44), (0, .ref ((g_sb G))), (1, .ref a1), (2, .ref a2), (3, .ref a3)]) fW_law_1182 rfl (by rw [ex53]; rfl) (by decide) rfl ?_
              refine e_goto (tgt := 23) fW_law_1185 (by decide) ?_
              exact Ev.loc [3, 4, 5, 6, 0] rfl V
            · have V := V.2 z
              refine e_aload_n fW_law_353 rfl 5 rfl ?_
              refine e_iconst (v := 0) fW_law_354 (by decide) ?_
              obtain ⟨v54, g0, gv54, V⟩ := V
              refine e_lald fW_law_355 g0 gv54 ?_
              refine e_iload fW_law_356 0 rfl ?_
              refine e_i2l fW_law_358 rfl ?_
              refine e_lcmp fW_law_359 ?_
              refine e_if_eq (tgt := 365) fW_law_360 (by decide) (fun z => ?_) (fun z => ?_)
              · have V := V.1 z
                refine e_goto (tgt := 1182) fW_law_365 (by decide) ?_
                obtain ⟨x55, ex55⟩ : ∃ z : Int32, z = a4 + 5 := ⟨_, rfl⟩
                have V := V x55 ex55
                refine e_iinc (v := x55) (k := 6) (ls' := [(4, .int x55), (6, .int r48), (5, .int r44), (0, .ref ((g_sb G))), (1, .ref a1), (2, .ref a2), (3, .ref a3)]) fW_law_1182 rfl (by rw [ex55]; rfl) (by decide) rfl ?_
                refine e_goto (tgt := 23) fW_law_1185 (by decide) ?_
                exact Ev.loc [3, 4, 5, 6, 0] rfl V
              · have V := V.2 z
                refine e_iconst (v := 0) fW_law_363 (by decide) ?_
                exact e_lawret fW_law_364 V
          · have V := V.2 z
            refine e_iconst (v := 0) fW_law_346 (by decide) ?_
            exact e_lawret fW_law_347 V
        · exact (VX E _ gx).elim
      · exact (VX E _ gx).elim
    by_cases z3 : ((g_xs G (Int32.toNatClampNeg a4)) &&& 15) = 3
    · have V := V.2.2.2.1 z3
      refine e_tin (tgt := 368) fW_law_39 (by rw [z3]; decide) (by rw [z3]; decide) (by rw [z3]; rfl) (by decide) ?_
      refine e_aload_n fW_law_368 rfl 1 rfl ?_
      refine e_aload_n fW_law_369 rfl 0 rfl ?_
      refine e_iload fW_law_370 4 rfl ?_
      refine e_iconst (v := 1) fW_law_372 (by decide) ?_
      refine e_iadd fW_law_373 ?_
      obtain ⟨gi, V⟩ := V
      refine e_sld fW_law_374 gi ?_
      refine e_aload_n fW_law_375 rfl 0 rfl ?_
      refine e_iload fW_law_376 4 rfl ?_
      refine e_iconst (v := 2) fW_law_378 (by decide) ?_
      refine e_iadd fW_law_379 ?_
      obtain ⟨gi, V⟩ := V
      refine e_sld fW_law_380 gi ?_
      refine e_aload_n fW_law_381 rfl 3 rfl ?_
      obtain ⟨⟨bc, bs⟩, V⟩ := V
      obtain ⟨A, X, hm, V, VX⟩ := V
      refine e_callWi (uc' := (uc - 5)) (us' := (us - 30)) (st := []) fW_law_382 wW_law_382 rfl rfl hm (Nat.le_of_ble_eq_true rfl) (by show 5 + _ ≤ _; omega) (by show 30 + _ ≤ _; omega) (fun r59 h58 ga => ?_) (fun E h58 gx => ?_)
      · have V := V _ _ ga
        refine e_istore (ls' := [(5, .int r59), (0, .ref ((g_sb G))), (1, .ref a1), (2, .ref a2), (3, .ref a3), (4, .int a4)]) fW_law_385 (by decide) rfl ?_
        refine e_aload_n fW_law_387 rfl 3 rfl ?_
        refine e_aload_n fW_law_388 rfl 1 rfl ?_
        refine e_iload fW_law_389 5 rfl ?_
        refine e_iconst (v := 1) fW_law_391 (by decide) ?_
        refine e_iadd fW_law_392 ?_
        obtain ⟨gi, V⟩ := V
        refine e_sld fW_law_393 gi ?_
        refine e_aload_n fW_law_394 rfl 1 rfl ?_
        refine e_iload fW_law_395 5 rfl ?_
        refine e_iconst (v := 2) fW_law_397 (by decide) ?_
        refine e_iadd fW_law_398 ?_
        obtain ⟨gi, V⟩ := V
        refine e_sld fW_law_399 gi ?_
        obtain ⟨gc, V⟩ := V
        obtain ⟨⟨bc, bs⟩, V⟩ := V
        obtain ⟨A, X, hm, V, VX⟩ := V
        refine e_callVi (uc' := (uc - 5)) (us' := (us - 30)) (st := []) fW_law_400 wW_law_400 rfl rfl gc hm (Nat.le_of_ble_eq_true rfl) (by show 0 + _ ≤ _; omega) (by show 0 + _ ≤ _; omega) (fun r63 h62 ga => ?_) (fun E h62 gx => ?_)
        · have V := V _ _ ga
          refine e_istore (ls' := [(6, .int r63), (5, .int r59), (0, .ref ((g_sb G))), (1, .ref a1), (2, .ref a2), (3, .ref a3), (4, .int a4)]) fW_law_403 (by decide) rfl ?_
          refine e_aload_n fW_law_405 rfl 4 rfl ?_
          obtain ⟨v65, gv65, V⟩ := V
          obtain ⟨gc, V⟩ := V
          refine e_callVi (uc' := (uc - 5)) (us' := (us - 30)) (st := []) fW_law_406 wW_law_406 rfl rfl gc (sp_R_thrown gv65) (Nat.le_of_ble_eq_true rfl) (by show 0 + _ ≤ _; omega) (by show 0 + _ ≤ _; omega) (fun r67 h66 ga => ?_) (fun E h66 gx => False.elim gx)
          obtain ⟨rfl, ge⟩ := ga
          replace ge := ge.symm
          subst ge
          refine e_iload fW_law_409 1 rfl ?_
          refine e_icmp_eq (tgt := 416) fW_law_411 (by decide) (fun z => ?_) (fun z => ?_)
          · have V := V.1 z
            refine e_iload fW_law_416 1 rfl ?_
            refine e_if_ne (tgt := 433) fW_law_418 (by decide) (fun z => ?_) (fun z => ?_)
            · have V := V.1 z
              refine e_goto (tgt := 1182) fW_law_433 (by decide) ?_
              obtain ⟨x68, ex68⟩ : ∃ z : Int32, z = a4 + 5 := ⟨_, rfl⟩
              have V := V x68 ex68
              refine e_iinc (v := x68) (k := 6) (ls' := [(4, .int x68), (6, .int r63), (5, .int r59), (0, .ref ((g_sb G))), (1, .ref a1), (2, .ref a2), (3, .ref a3)]) fW_law_1182 rfl (by rw [ex68]; rfl) (by decide) rfl ?_
              refine e_goto (tgt := 23) fW_law_1185 (by decide) ?_
              exact Ev.loc [3, 4, 5, 6, 0] rfl V
            · have V := V.2 z
              refine e_aload_n fW_law_421 rfl 5 rfl ?_
              refine e_iconst (v := 0) fW_law_422 (by decide) ?_
              obtain ⟨v69, g0, gv69, V⟩ := V
              refine e_lald fW_law_423 g0 gv69 ?_
              refine e_iload fW_law_424 0 rfl ?_
              refine e_i2l fW_law_426 rfl ?_
              refine e_lcmp fW_law_427 ?_
              refine e_if_eq (tgt := 433) fW_law_428 (by decide) (fun z => ?_) (fun z => ?_)
              · have V := V.1 z
                refine e_goto (tgt := 1182) fW_law_433 (by decide) ?_
                obtain ⟨x70, ex70⟩ : ∃ z : Int32, z = a4 + 5 := ⟨_, rfl⟩
                have V := V x70 ex70
                refine e_iinc (v := x70) (k := 6) (ls' := [(4, .int x70), (6, .int r63), (5, .int r59), (0, .ref ((g_sb G))), (1, .ref a1), (2, .ref a2), (3, .ref a3)]) fW_law_1182 rfl (by rw [ex70]; rfl) (by decide) rfl ?_
                refine e_goto (tgt := 23) fW_law_1185 (by decide) ?_
                exact Ev.loc [3, 4, 5, 6, 0] rfl V
              · have V := V.2 z
                refine e_iconst (v := 0) fW_law_431 (by decide) ?_
                exact e_lawret fW_law_432 V
          · have V := V.2 z
            refine e_iconst (v := 0) fW_law_414 (by decide) ?_
            exact e_lawret fW_law_415 V
        · exact (VX E _ gx).elim
      · exact (VX E _ gx).elim
    by_cases z4 : ((g_xs G (Int32.toNatClampNeg a4)) &&& 15) = 4
    · have V := V.2.2.2.2.1 z4
      refine e_tin (tgt := 436) fW_law_39 (by rw [z4]; decide) (by rw [z4]; decide) (by rw [z4]; rfl) (by decide) ?_
      refine e_aload_n fW_law_436 rfl 1 rfl ?_
      refine e_aload_n fW_law_437 rfl 0 rfl ?_
      refine e_iload fW_law_438 4 rfl ?_
      refine e_iconst (v := 1) fW_law_440 (by decide) ?_
      refine e_iadd fW_law_441 ?_
      obtain ⟨gi, V⟩ := V
      refine e_sld fW_law_442 gi ?_
      refine e_aload_n fW_law_443 rfl 3 rfl ?_
      obtain ⟨⟨bc, bs⟩, V⟩ := V
      obtain ⟨A, X, hm, V, VX⟩ := V
      refine e_callWi (uc' := (uc - 2)) (us' := (us - 12)) (st := []) fW_law_444 wW_law_444 rfl rfl hm (Nat.le_of_ble_eq_true rfl) (by show 2 + _ ≤ _; omega) (by show 12 + _ ≤ _; omega) (fun r73 h72 ga => ?_) (fun E h72 gx => ?_)
      · have V := V _ _ ga
        refine e_istore (ls' := [(5, .int r73), (0, .ref ((g_sb G))), (1, .ref a1), (2, .ref a2), (3, .ref a3), (4, .int a4)]) fW_law_447 (by decide) rfl ?_
        refine e_aload_n fW_law_449 rfl 3 rfl ?_
        refine e_aload_n fW_law_450 rfl 1 rfl ?_
        refine e_iload fW_law_451 5 rfl ?_
        refine e_iconst (v := 1) fW_law_453 (by decide) ?_
        refine e_iadd fW_law_454 ?_
        obtain ⟨gi, V⟩ := V
        refine e_sld fW_law_455 gi ?_
        obtain ⟨gc, V⟩ := V
        obtain ⟨⟨bc, bs⟩, V⟩ := V
        obtain ⟨A, X, hm, V, VX⟩ := V
        refine e_callVi (uc' := (uc - 2)) (us' := (us - 12)) (st := []) fW_law_456 wW_law_456 rfl rfl gc hm (Nat.le_of_ble_eq_true rfl) (by show 0 + _ ≤ _; omega) (by show 0 + _ ≤ _; omega) (fun r76 h75 ga => ?_) (fun E h75 gx => ?_)
        · have V := V _ _ ga
          refine e_istore (ls' := [(6, .int r76), (5, .int r73), (0, .ref ((g_sb G))), (1, .ref a1), (2, .ref a2), (3, .ref a3), (4, .int a4)]) fW_law_459 (by decide) rfl ?_
          refine e_aload_n fW_law_461 rfl 4 rfl ?_
          obtain ⟨v78, gv78, V⟩ := V
          obtain ⟨gc, V⟩ := V
          refine e_callVi (uc' := (uc - 2)) (us' := (us - 12)) (st := []) fW_law_462 wW_law_462 rfl rfl gc (sp_R_thrown gv78) (Nat.le_of_ble_eq_true rfl) (by show 0 + _ ≤ _; omega) (by show 0 + _ ≤ _; omega) (fun r80 h79 ga => ?_) (fun E h79 gx => False.elim gx)
          obtain ⟨rfl, ge⟩ := ga
          replace ge := ge.symm
          subst ge
          refine e_iload fW_law_465 1 rfl ?_
          refine e_icmp_eq (tgt := 472) fW_law_467 (by decide) (fun z => ?_) (fun z => ?_)
          · have V := V.1 z
            refine e_iload fW_law_472 1 rfl ?_
            refine e_if_ne (tgt := 489) fW_law_474 (by decide) (fun z => ?_) (fun z => ?_)
            · have V := V.1 z
              refine e_goto (tgt := 1182) fW_law_489 (by decide) ?_
              obtain ⟨x81, ex81⟩ : ∃ z : Int32, z = a4 + 5 := ⟨_, rfl⟩
              have V := V x81 ex81
              refine e_iinc (v := x81) (k := 6) (ls' := [(4, .int x81), (6, .int r76), (5, .int r73), (0, .ref ((g_sb G))), (1, .ref a1), (2, .ref a2), (3, .ref a3)]) fW_law_1182 rfl (by rw [ex81]; rfl) (by decide) rfl ?_
              refine e_goto (tgt := 23) fW_law_1185 (by decide) ?_
              exact Ev.loc [3, 4, 5, 6, 0] rfl V
            · have V := V.2 z
              refine e_aload_n fW_law_477 rfl 5 rfl ?_
              refine e_iconst (v := 0) fW_law_478 (by decide) ?_
              obtain ⟨v82, g0, gv82, V⟩ := V
              refine e_lald fW_law_479 g0 gv82 ?_
              refine e_iload fW_law_480 0 rfl ?_
              refine e_i2l fW_law_482 rfl ?_
              refine e_lcmp fW_law_483 ?_
              refine e_if_eq (tgt := 489) fW_law_484 (by decide) (fun z => ?_) (fun z => ?_)
              · have V := V.1 z
                refine e_goto (tgt := 1182) fW_law_489 (by decide) ?_
                obtain ⟨x83, ex83⟩ : ∃ z : Int32, z = a4 + 5 := ⟨_, rfl⟩
                have V := V x83 ex83
                refine e_iinc (v := x83) (k := 6) (ls' := [(4, .int x83), (6, .int r76), (5, .int r73), (0, .ref ((g_sb G))), (1, .ref a1), (2, .ref a2), (3, .ref a3)]) fW_law_1182 rfl (by rw [ex83]; rfl) (by decide) rfl ?_
                refine e_goto (tgt := 23) fW_law_1185 (by decide) ?_
                exact Ev.loc [3, 4, 5, 6, 0] rfl V
              · have V := V.2 z
                refine e_iconst (v := 0) fW_law_487 (by decide) ?_
                exact e_lawret fW_law_488 V
          · have V := V.2 z
            refine e_iconst (v := 0) fW_law_470 (by decide) ?_
            exact e_lawret fW_law_471 V
        · exact (VX E _ gx).elim
      · exact (VX E _ gx).elim
    by_cases z5 : ((g_xs G (Int32.toNatClampNeg a4)) &&& 15) = 5
    · have V := V.2.2.2.2.2.1 z5
      refine e_tin (tgt := 492) fW_law_39 (by rw [z5]; decide) (by rw [z5]; decide) (by rw [z5]; rfl) (by decide) ?_
      refine e_aload_n fW_law_492 rfl 1 rfl ?_
      refine e_aload_n fW_law_493 rfl 0 rfl ?_
      refine e_iload fW_law_494 4 rfl ?_
      refine e_iconst (v := 1) fW_law_496 (by decide) ?_
      refine e_iadd fW_law_497 ?_
      obtain ⟨gi, V⟩ := V
      refine e_sld fW_law_498 gi ?_
      refine e_aload_n fW_law_499 rfl 0 rfl ?_
      refine e_iload fW_law_500 4 rfl ?_
      refine e_iconst (v := 2) fW_law_502 (by decide) ?_
      refine e_iadd fW_law_503 ?_
      obtain ⟨gi, V⟩ := V
      refine e_sld fW_law_504 gi ?_
      refine e_aload_n fW_law_505 rfl 0 rfl ?_
      refine e_iload fW_law_506 4 rfl ?_
      refine e_iconst (v := 3) fW_law_508 (by decide) ?_
      refine e_iadd fW_law_509 ?_
      obtain ⟨gi, V⟩ := V
      refine e_sld fW_law_510 gi ?_
      refine e_aload_n fW_law_511 rfl 3 rfl ?_
      obtain ⟨⟨bc, bs⟩, V⟩ := V
      obtain ⟨A, X, hm, V, VX⟩ := V
      refine e_callWi (uc' := (uc - 8)) (us' := (us - 48)) (st := []) fW_law_512 wW_law_512 rfl rfl hm (Nat.le_of_ble_eq_true rfl) (by show 8 + _ ≤ _; omega) (by show 48 + _ ≤ _; omega) (fun r88 h87 ga => ?_) (fun E h87 gx => ?_)
      · have V := V _ _ ga
        refine e_istore (ls' := [(5, .int r88), (0, .ref ((g_sb G))), (1, .ref a1), (2, .ref a2), (3, .ref a3), (4, .int a4)]) fW_law_515 (by decide) rfl ?_
        refine e_aload_n fW_law_517 rfl 3 rfl ?_
        refine e_aload_n fW_law_518 rfl 1 rfl ?_
        refine e_iload fW_law_519 5 rfl ?_
        refine e_iconst (v := 1) fW_law_521 (by decide) ?_
        refine e_iadd fW_law_522 ?_
        obtain ⟨gi, V⟩ := V
        refine e_sld fW_law_523 gi ?_
        refine e_aload_n fW_law_524 rfl 1 rfl ?_
        refine e_iload fW_law_525 5 rfl ?_
        refine e_iconst (v := 2) fW_law_527 (by decide) ?_
        refine e_iadd fW_law_528 ?_
        obtain ⟨gi, V⟩ := V
        refine e_sld fW_law_529 gi ?_
        refine e_aload_n fW_law_530 rfl 1 rfl ?_
        refine e_iload fW_law_531 5 rfl ?_
        refine e_iconst (v := 3) fW_law_533 (by decide) ?_
        refine e_iadd fW_law_534 ?_
        obtain ⟨gi, V⟩ := V
        refine e_sld fW_law_535 gi ?_
        obtain ⟨gc, V⟩ := V
        obtain ⟨⟨bc, bs⟩, V⟩ := V
        obtain ⟨A, X, hm, V, VX⟩ := V
        refine e_callVi (uc' := (uc - 8)) (us' := (us - 48)) (st := []) fW_law_536 wW_law_536 rfl rfl gc hm (Nat.le_of_ble_eq_true rfl) (by show 0 + _ ≤ _; omega) (by show 0 + _ ≤ _; omega) (fun r93 h92 ga => ?_) (fun E h92 gx => ?_)
        · have V := V _ _ ga
          refine e_istore (ls' := [(6, .int r93), (5, .int r88), (0, .ref ((g_sb G))), (1, .ref a1), (2, .ref a2), (3, .ref a3), (4, .int a4)]) fW_law_539 (by decide) rfl ?_
          refine e_aload_n fW_law_541 rfl 4 rfl ?_
          obtain ⟨v95, gv95, V⟩ := V
          obtain ⟨gc, V⟩ := V
          refine e_callVi (uc' := (uc - 8)) (us' := (us - 48)) (st := []) fW_law_542 wW_law_542 rfl rfl gc (sp_R_thrown gv95) (Nat.le_of_ble_eq_true rfl) (by show 0 + _ ≤ _; omega) (by show 0 + _ ≤ _; omega) (fun r97 h96 ga => ?_) (fun E h96 gx => False.elim gx)
          obtain ⟨rfl, ge⟩ := ga
          replace ge := ge.symm
          subst ge
          refine e_iload fW_law_545 1 rfl ?_
          refine e_icmp_eq (tgt := 552) fW_law_547 (by decide) (fun z => ?_) (fun z => ?_)
          · have V := V.1 z
            refine e_iload fW_law_552 1 rfl ?_
            refine e_if_ne (tgt := 576) fW_law_554 (by decide) (fun z => ?_) (fun z => ?_)
            · have V := V.1 z
              refine e_goto (tgt := 1182) fW_law_576 (by decide) ?_
              obtain ⟨x98, ex98⟩ : ∃ z : Int32, z = a4 + 5 := ⟨_, rfl⟩
              have V := V x98 ex98
              refine e_iinc (v := x98) (k := 6) (ls' := [(4, .int x98), (6, .int r93), (5, .int r88), (0, .ref ((g_sb G))), (1, .ref a1), (2, .ref a2), (3, .ref a3)]) fW_law_1182 rfl (by rw [ex98]; rfl) (by decide) rfl ?_
              refine e_goto (tgt := 23) fW_law_1185 (by decide) ?_
              exact Ev.loc [3, 4, 5, 6, 0] rfl V
            · have V := V.2 z
              refine e_aload_n fW_law_557 rfl 5 rfl ?_
              refine e_iconst (v := 0) fW_law_558 (by decide) ?_
              obtain ⟨v99, g0, gv99, V⟩ := V
              refine e_lald fW_law_559 g0 gv99 ?_
              refine e_iload fW_law_560 0 rfl ?_
              obtain ⟨J101, VJ101, V⟩ := V
              have KJ101 : ∀ (j100 : Int64), J101 j100 → Ev l G M_W_law 570 [(0, .ref ((g_sb G))), (1, .ref a1), (2, .ref a2), (3, .ref a3), (4, .int a4), (5, .int r88), (6, .int r93)] [.long j100, .long v99] h92 (uc - 8) (us - 48) (lw_fin G) := by
                intro j100 hj
                have V := Eq.mp (congrFun VJ101 j100) hj
                refine e_lcmp fW_law_570 ?_
                refine e_if_eq (tgt := 576) fW_law_571 (by decide) (fun z => ?_) (fun z => ?_)
                · have V := V.1 z
                  refine e_goto (tgt := 1182) fW_law_576 (by decide) ?_
                  obtain ⟨x102, ex102⟩ : ∃ z : Int32, z = a4 + 5 := ⟨_, rfl⟩
                  have V := V x102 ex102
                  refine e_iinc (v := x102) (k := 4) (ls' := [(4, .int x102), (0, .ref ((g_sb G))), (1, .ref a1), (2, .ref a2), (3, .ref a3), (5, .int r88), (6, .int r93)]) fW_law_1182 rfl (by rw [ex102]; rfl) (by decide) rfl ?_
                  refine e_goto (tgt := 23) fW_law_1185 (by decide) ?_
                  exact Ev.loc [1, 2, 3, 4, 0] rfl V
                · have V := V.2 z
                  refine e_iconst (v := 0) fW_law_574 (by decide) ?_
                  exact e_lawret fW_law_575 V
              refine e_if_eq (tgt := 569) fW_law_562 (by decide) (fun z => ?_) (fun z => ?_)
              · have V := V.1 z
                refine e_lconst (v := 0) fW_law_569 (by decide) ?_
                exact Ev.widen (Nat.le_refl _) (Nat.le_refl _) (Ev.loc [2, 3, 4, 5, 6, 1, 0] rfl (KJ101 _ V))
              · have V := V.2 z
                refine e_lconst (v := 1) fW_law_565 (by decide) ?_
                refine e_goto (tgt := 570) fW_law_566 (by decide) ?_
                exact Ev.widen (Nat.le_refl _) (Nat.le_refl _) (Ev.loc [2, 3, 4, 5, 6, 1, 0] rfl (KJ101 _ V))
          · have V := V.2 z
            refine e_iconst (v := 0) fW_law_550 (by decide) ?_
            exact e_lawret fW_law_551 V
        · exact (VX E _ gx).elim
      · exact (VX E _ gx).elim
    by_cases z6 : ((g_xs G (Int32.toNatClampNeg a4)) &&& 15) = 6
    · have V := V.2.2.2.2.2.2.1 z6
      refine e_tin (tgt := 579) fW_law_39 (by rw [z6]; decide) (by rw [z6]; decide) (by rw [z6]; rfl) (by decide) ?_
      refine e_aload_n fW_law_579 rfl 1 rfl ?_
      refine e_aload_n fW_law_580 rfl 0 rfl ?_
      refine e_iload fW_law_581 4 rfl ?_
      refine e_iconst (v := 1) fW_law_583 (by decide) ?_
      refine e_iadd fW_law_584 ?_
      obtain ⟨gi, V⟩ := V
      refine e_sld fW_law_585 gi ?_
      refine e_aload_n fW_law_586 rfl 0 rfl ?_
      refine e_iload fW_law_587 4 rfl ?_
      refine e_iconst (v := 2) fW_law_589 (by decide) ?_
      refine e_iadd fW_law_590 ?_
      obtain ⟨gi, V⟩ := V
      refine e_sld fW_law_591 gi ?_
      refine e_aload_n fW_law_592 rfl 3 rfl ?_
      obtain ⟨⟨bc, bs⟩, V⟩ := V
      obtain ⟨A, X, hm, V, VX⟩ := V
      refine e_callWi (uc' := (uc - 2)) (us' := (us - 12)) (st := []) fW_law_593 wW_law_593 rfl rfl hm (Nat.le_of_ble_eq_true rfl) (by show 2 + _ ≤ _; omega) (by show 12 + _ ≤ _; omega) (fun r106 h105 ga => ?_) (fun E h105 gx => ?_)
      · have V := V _ _ ga
        refine e_istore (ls' := [(5, .int r106), (0, .ref ((g_sb G))), (1, .ref a1), (2, .ref a2), (3, .ref a3), (4, .int a4)]) fW_law_596 (by decide) rfl ?_
        refine e_aload_n fW_law_598 rfl 3 rfl ?_
        refine e_aload_n fW_law_599 rfl 1 rfl ?_
        refine e_iload fW_law_600 5 rfl ?_
        refine e_iconst (v := 1) fW_law_602 (by decide) ?_
        refine e_iadd fW_law_603 ?_
        obtain ⟨gi, V⟩ := V
        refine e_sld fW_law_604 gi ?_
        refine e_aload_n fW_law_605 rfl 1 rfl ?_
        refine e_iload fW_law_606 5 rfl ?_
        refine e_iconst (v := 2) fW_law_608 (by decide) ?_
        refine e_iadd fW_law_609 ?_
        obtain ⟨gi, V⟩ := V
        refine e_sld fW_law_610 gi ?_
        obtain ⟨gc, V⟩ := V
        obtain ⟨⟨bc, bs⟩, V⟩ := V
        obtain ⟨A, X, hm, V, VX⟩ := V
        refine e_callVi (uc' := (uc - 2)) (us' := (us - 12)) (st := []) fW_law_611 wW_law_611 rfl rfl gc hm (Nat.le_of_ble_eq_true rfl) (by show 0 + _ ≤ _; omega) (by show 0 + _ ≤ _; omega) (fun r110 h109 ga => ?_) (fun E h109 gx => ?_)
        · have V := V _ _ ga
          refine e_istore (ls' := [(6, .int r110), (5, .int r106), (0, .ref ((g_sb G))), (1, .ref a1), (2, .ref a2), (3, .ref a3), (4, .int a4)]) fW_law_614 (by decide) rfl ?_
          refine e_aload_n fW_law_616 rfl 4 rfl ?_
          obtain ⟨v112, gv112, V⟩ := V
          obtain ⟨gc, V⟩ := V
          refine e_callVi (uc' := (uc - 2)) (us' := (us - 12)) (st := []) fW_law_617 wW_law_617 rfl rfl gc (sp_R_thrown gv112) (Nat.le_of_ble_eq_true rfl) (by show 0 + _ ≤ _; omega) (by show 0 + _ ≤ _; omega) (fun r114 h113 ga => ?_) (fun E h113 gx => False.elim gx)
          obtain ⟨rfl, ge⟩ := ga
          replace ge := ge.symm
          subst ge
          refine e_iload fW_law_620 1 rfl ?_
          refine e_icmp_eq (tgt := 627) fW_law_622 (by decide) (fun z => ?_) (fun z => ?_)
          · have V := V.1 z
            refine e_iload fW_law_627 1 rfl ?_
            refine e_if_ne (tgt := 651) fW_law_629 (by decide) (fun z => ?_) (fun z => ?_)
            · have V := V.1 z
              refine e_goto (tgt := 1182) fW_law_651 (by decide) ?_
              obtain ⟨x115, ex115⟩ : ∃ z : Int32, z = a4 + 5 := ⟨_, rfl⟩
              have V := V x115 ex115
              refine e_iinc (v := x115) (k := 6) (ls' := [(4, .int x115), (6, .int r110), (5, .int r106), (0, .ref ((g_sb G))), (1, .ref a1), (2, .ref a2), (3, .ref a3)]) fW_law_1182 rfl (by rw [ex115]; rfl) (by decide) rfl ?_
              refine e_goto (tgt := 23) fW_law_1185 (by decide) ?_
              exact Ev.loc [3, 4, 5, 6, 0] rfl V
            · have V := V.2 z
              refine e_aload_n fW_law_632 rfl 5 rfl ?_
              refine e_iconst (v := 0) fW_law_633 (by decide) ?_
              obtain ⟨v116, g0, gv116, V⟩ := V
              refine e_lald fW_law_634 g0 gv116 ?_
              refine e_iload fW_law_635 0 rfl ?_
              obtain ⟨J118, VJ118, V⟩ := V
              have KJ118 : ∀ (j117 : Int64), J118 j117 → Ev l G M_W_law 645 [(0, .ref ((g_sb G))), (1, .ref a1), (2, .ref a2), (3, .ref a3), (4, .int a4), (5, .int r106), (6, .int r110)] [.long j117, .long v116] h109 (uc - 2) (us - 12) (lw_fin G) := by
                intro j117 hj
                have V := Eq.mp (congrFun VJ118 j117) hj
                refine e_lcmp fW_law_645 ?_
                refine e_if_eq (tgt := 651) fW_law_646 (by decide) (fun z => ?_) (fun z => ?_)
                · have V := V.1 z
                  refine e_goto (tgt := 1182) fW_law_651 (by decide) ?_
                  obtain ⟨x119, ex119⟩ : ∃ z : Int32, z = a4 + 5 := ⟨_, rfl⟩
                  have V := V x119 ex119
                  refine e_iinc (v := x119) (k := 4) (ls' := [(4, .int x119), (0, .ref ((g_sb G))), (1, .ref a1), (2, .ref a2), (3, .ref a3), (5, .int r106), (6, .int r110)]) fW_law_1182 rfl (by rw [ex119]; rfl) (by decide) rfl ?_
                  refine e_goto (tgt := 23) fW_law_1185 (by decide) ?_
                  exact Ev.loc [1, 2, 3, 4, 0] rfl V
                · have V := V.2 z
                  refine e_iconst (v := 0) fW_law_649 (by decide) ?_
                  exact e_lawret fW_law_650 V
              refine e_if_eq (tgt := 644) fW_law_637 (by decide) (fun z => ?_) (fun z => ?_)
              · have V := V.1 z
                refine e_lconst (v := 0) fW_law_644 (by decide) ?_
                exact Ev.widen (Nat.le_refl _) (Nat.le_refl _) (Ev.loc [2, 3, 4, 5, 6, 1, 0] rfl (KJ118 _ V))
              · have V := V.2 z
                refine e_lconst (v := 1) fW_law_640 (by decide) ?_
                refine e_goto (tgt := 645) fW_law_641 (by decide) ?_
                exact Ev.widen (Nat.le_refl _) (Nat.le_refl _) (Ev.loc [2, 3, 4, 5, 6, 1, 0] rfl (KJ118 _ V))
          · have V := V.2 z
            refine e_iconst (v := 0) fW_law_625 (by decide) ?_
            exact e_lawret fW_law_626 V
        · exact (VX E _ gx).elim
      · exact (VX E _ gx).elim
    by_cases z7 : ((g_xs G (Int32.toNatClampNeg a4)) &&& 15) = 7
    · have V := V.2.2.2.2.2.2.2.1 z7
      refine e_tin (tgt := 654) fW_law_39 (by rw [z7]; decide) (by rw [z7]; decide) (by rw [z7]; rfl) (by decide) ?_
      refine e_aload_n fW_law_654 rfl 1 rfl ?_
      refine e_aload_n fW_law_655 rfl 0 rfl ?_
      refine e_iload fW_law_656 4 rfl ?_
      refine e_iconst (v := 1) fW_law_658 (by decide) ?_
      refine e_iadd fW_law_659 ?_
      obtain ⟨gi, V⟩ := V
      refine e_sld fW_law_660 gi ?_
      refine e_aload_n fW_law_661 rfl 3 rfl ?_
      obtain ⟨⟨bc, bs⟩, V⟩ := V
      obtain ⟨A, X, hm, V, VX⟩ := V
      refine e_callWi (uc' := (uc - 3)) (us' := (us - 18)) (st := []) fW_law_662 wW_law_662 rfl rfl hm (Nat.le_of_ble_eq_true rfl) (by show 3 + _ ≤ _; omega) (by show 18 + _ ≤ _; omega) (fun r122 h121 ga => ?_) (fun E h121 gx => ?_)
      · have V := V _ _ ga
        refine e_istore (ls' := [(5, .int r122), (0, .ref ((g_sb G))), (1, .ref a1), (2, .ref a2), (3, .ref a3), (4, .int a4)]) fW_law_665 (by decide) rfl ?_
        refine e_aload_n fW_law_667 rfl 3 rfl ?_
        refine e_aload_n fW_law_668 rfl 1 rfl ?_
        refine e_iload fW_law_669 5 rfl ?_
        refine e_iconst (v := 1) fW_law_671 (by decide) ?_
        refine e_iadd fW_law_672 ?_
        obtain ⟨gi, V⟩ := V
        refine e_sld fW_law_673 gi ?_
        obtain ⟨gc, V⟩ := V
        obtain ⟨⟨bc, bs⟩, V⟩ := V
        obtain ⟨A, X, hm, V, VX⟩ := V
        refine e_callVi (uc' := (uc - 3)) (us' := (us - 18)) (st := []) fW_law_674 wW_law_674 rfl rfl gc hm (Nat.le_of_ble_eq_true rfl) (by show 0 + _ ≤ _; omega) (by show 0 + _ ≤ _; omega) (fun r125 h124 ga => ?_) (fun E h124 gx => ?_)
        · have V := V _ _ ga
          refine e_istore (ls' := [(6, .int r125), (5, .int r122), (0, .ref ((g_sb G))), (1, .ref a1), (2, .ref a2), (3, .ref a3), (4, .int a4)]) fW_law_677 (by decide) rfl ?_
          refine e_aload_n fW_law_679 rfl 4 rfl ?_
          obtain ⟨v127, gv127, V⟩ := V
          obtain ⟨gc, V⟩ := V
          refine e_callVi (uc' := (uc - 3)) (us' := (us - 18)) (st := []) fW_law_680 wW_law_680 rfl rfl gc (sp_R_thrown gv127) (Nat.le_of_ble_eq_true rfl) (by show 0 + _ ≤ _; omega) (by show 0 + _ ≤ _; omega) (fun r129 h128 ga => ?_) (fun E h128 gx => False.elim gx)
          obtain ⟨rfl, ge⟩ := ga
          replace ge := ge.symm
          subst ge
          refine e_iload fW_law_683 1 rfl ?_
          refine e_icmp_eq (tgt := 690) fW_law_685 (by decide) (fun z => ?_) (fun z => ?_)
          · have V := V.1 z
            refine e_iload fW_law_690 1 rfl ?_
            refine e_if_ne (tgt := 707) fW_law_692 (by decide) (fun z => ?_) (fun z => ?_)
            · have V := V.1 z
              refine e_goto (tgt := 1182) fW_law_707 (by decide) ?_
              obtain ⟨x130, ex130⟩ : ∃ z : Int32, z = a4 + 5 := ⟨_, rfl⟩
              have V := V x130 ex130
              refine e_iinc (v := x130) (k := 6) (ls' := [(4, .int x130), (6, .int r125), (5, .int r122), (0, .ref ((g_sb G))), (1, .ref a1), (2, .ref a2), (3, .ref a3)]) fW_law_1182 rfl (by rw [ex130]; rfl) (by decide) rfl ?_
              refine e_goto (tgt := 23) fW_law_1185 (by decide) ?_
              exact Ev.loc [3, 4, 5, 6, 0] rfl V
            · have V := V.2 z
              refine e_aload_n fW_law_695 rfl 5 rfl ?_
              refine e_iconst (v := 0) fW_law_696 (by decide) ?_
              obtain ⟨v131, g0, gv131, V⟩ := V
              refine e_lald fW_law_697 g0 gv131 ?_
              refine e_iload fW_law_698 0 rfl ?_
              refine e_i2l fW_law_700 rfl ?_
              refine e_lcmp fW_law_701 ?_
              refine e_if_eq (tgt := 707) fW_law_702 (by decide) (fun z => ?_) (fun z => ?_)
              · have V := V.1 z
                refine e_goto (tgt := 1182) fW_law_707 (by decide) ?_
                obtain ⟨x132, ex132⟩ : ∃ z : Int32, z = a4 + 5 := ⟨_, rfl⟩
                have V := V x132 ex132
                refine e_iinc (v := x132) (k := 6) (ls' := [(4, .int x132), (6, .int r125), (5, .int r122), (0, .ref ((g_sb G))), (1, .ref a1), (2, .ref a2), (3, .ref a3)]) fW_law_1182 rfl (by rw [ex132]; rfl) (by decide) rfl ?_
                refine e_goto (tgt := 23) fW_law_1185 (by decide) ?_
                exact Ev.loc [3, 4, 5, 6, 0] rfl V
              · have V := V.2 z
                refine e_iconst (v := 0) fW_law_705 (by decide) ?_
                exact e_lawret fW_law_706 V
          · have V := V.2 z
            refine e_iconst (v := 0) fW_law_688 (by decide) ?_
            exact e_lawret fW_law_689 V
        · exact (VX E _ gx).elim
      · exact (VX E _ gx).elim
    by_cases z8 : ((g_xs G (Int32.toNatClampNeg a4)) &&& 15) = 8
    · have V := V.2.2.2.2.2.2.2.2.1 z8
      refine e_tin (tgt := 710) fW_law_39 (by rw [z8]; decide) (by rw [z8]; decide) (by rw [z8]; rfl) (by decide) ?_
      refine e_aload_n fW_law_710 rfl 1 rfl ?_
      refine e_aload_n fW_law_711 rfl 0 rfl ?_
      refine e_iload fW_law_712 4 rfl ?_
      refine e_iconst (v := 1) fW_law_714 (by decide) ?_
      refine e_iadd fW_law_715 ?_
      obtain ⟨gi, V⟩ := V
      refine e_sld fW_law_716 gi ?_
      refine e_aload_n fW_law_717 rfl 0 rfl ?_
      refine e_iload fW_law_718 4 rfl ?_
      refine e_iconst (v := 2) fW_law_720 (by decide) ?_
      refine e_iadd fW_law_721 ?_
      obtain ⟨gi, V⟩ := V
      refine e_sld fW_law_722 gi ?_
      obtain ⟨⟨bc, bs⟩, V⟩ := V
      obtain ⟨A, X, hm, V, VX⟩ := V
      refine e_callWi (uc' := (uc - 23)) (us' := (us - 842)) (st := []) fW_law_723 wW_law_723 rfl rfl hm (Nat.le_of_ble_eq_true rfl) (by show 23 + _ ≤ _; omega) (by show 842 + _ ≤ _; omega) (fun r136 h135 ga => ?_) (fun E h135 gx => ?_)
      · have V := V _ _ ga
        refine e_istore (ls' := [(5, .int r136), (0, .ref ((g_sb G))), (1, .ref a1), (2, .ref a2), (3, .ref a3), (4, .int a4)]) fW_law_726 (by decide) rfl ?_
        refine e_aload_n fW_law_728 rfl 3 rfl ?_
        refine e_aload_n fW_law_729 rfl 1 rfl ?_
        refine e_iload fW_law_730 5 rfl ?_
        refine e_iconst (v := 1) fW_law_732 (by decide) ?_
        refine e_iadd fW_law_733 ?_
        obtain ⟨gi, V⟩ := V
        refine e_sld fW_law_734 gi ?_
        refine e_aload_n fW_law_735 rfl 1 rfl ?_
        refine e_iload fW_law_736 5 rfl ?_
        refine e_iconst (v := 2) fW_law_738 (by decide) ?_
        refine e_iadd fW_law_739 ?_
        obtain ⟨gi, V⟩ := V
        refine e_sld fW_law_740 gi ?_
        obtain ⟨gc, V⟩ := V
        obtain ⟨⟨bc, bs⟩, V⟩ := V
        obtain ⟨A, X, hm, V, VX⟩ := V
        refine e_callVv (uc' := (uc - 23)) (us' := (us - 842)) (st := []) fW_law_741 wW_law_741 rfl rfl gc hm (Nat.le_of_ble_eq_true rfl) (by show 0 + _ ≤ _; omega) (by show 0 + _ ≤ _; omega) (fun h139 ga => ?_) (fun E h139 gx => ?_)
        · have V := V _ ga
          refine e_aload_n fW_law_744 rfl 3 rfl ?_
          obtain ⟨v141, gv141, V⟩ := V
          obtain ⟨gc, V⟩ := V
          refine e_callVi (uc' := (uc - 23)) (us' := (us - 842)) (st := []) fW_law_745 wW_law_745 rfl rfl gc (sp_R_thrown gv141) (Nat.le_of_ble_eq_true rfl) (by show 0 + _ ≤ _; omega) (by show 0 + _ ≤ _; omega) (fun r143 h142 ga => ?_) (fun E h142 gx => False.elim gx)
          obtain ⟨rfl, ge⟩ := ga
          replace ge := ge.symm
          subst ge
          refine e_iload fW_law_748 0 rfl ?_
          refine e_icmp_eq (tgt := 755) fW_law_750 (by decide) (fun z => ?_) (fun z => ?_)
          · have V := V.1 z
            refine e_goto (tgt := 1182) fW_law_755 (by decide) ?_
            obtain ⟨x144, ex144⟩ : ∃ z : Int32, z = a4 + 5 := ⟨_, rfl⟩
            have V := V x144 ex144
            refine e_iinc (v := x144) (k := 5) (ls' := [(4, .int x144), (5, .int r136), (0, .ref ((g_sb G))), (1, .ref a1), (2, .ref a2), (3, .ref a3)]) fW_law_1182 rfl (by rw [ex144]; rfl) (by decide) rfl ?_
            refine e_goto (tgt := 23) fW_law_1185 (by decide) ?_
            exact Ev.loc [2, 3, 4, 5, 0] rfl V
          · have V := V.2 z
            refine e_iconst (v := 0) fW_law_753 (by decide) ?_
            exact e_lawret fW_law_754 V
        · exact (VX E _ gx).elim
      · exact (VX E _ gx).elim
    by_cases z9 : ((g_xs G (Int32.toNatClampNeg a4)) &&& 15) = 9
    · have V := V.2.2.2.2.2.2.2.2.2.1 z9
      refine e_tin (tgt := 758) fW_law_39 (by rw [z9]; decide) (by rw [z9]; decide) (by rw [z9]; rfl) (by decide) ?_
      refine e_aload_n fW_law_758 rfl 1 rfl ?_
      refine e_aload_n fW_law_759 rfl 0 rfl ?_
      refine e_iload fW_law_760 4 rfl ?_
      refine e_iconst (v := 1) fW_law_762 (by decide) ?_
      refine e_iadd fW_law_763 ?_
      obtain ⟨gi, V⟩ := V
      refine e_sld fW_law_764 gi ?_
      refine e_aload_n fW_law_765 rfl 0 rfl ?_
      refine e_iload fW_law_766 4 rfl ?_
      refine e_iconst (v := 2) fW_law_768 (by decide) ?_
      refine e_iadd fW_law_769 ?_
      obtain ⟨gi, V⟩ := V
      refine e_sld fW_law_770 gi ?_
      refine e_aload_n fW_law_771 rfl 0 rfl ?_
      refine e_iload fW_law_772 4 rfl ?_
      refine e_iconst (v := 3) fW_law_774 (by decide) ?_
      refine e_iadd fW_law_775 ?_
      obtain ⟨gi, V⟩ := V
      refine e_sld fW_law_776 gi ?_
      obtain ⟨J149, VJ149, V⟩ := V
      have KJ149 : ∀ (j148 : Int32), J149 j148 → Ev l G M_W_law 785 [(0, .ref ((g_sb G))), (1, .ref a1), (2, .ref a2), (3, .ref a3), (4, .int a4)] [.int j148, .int (g_xs G (Int32.toNatClampNeg (a4 + 2))), .int (g_xs G (Int32.toNatClampNeg (a4 + 1))), .ref a1] h uc us (lw_fin G) := by
        intro j148 hj
        have V := Eq.mp (congrFun VJ149 j148) hj
        refine e_aload_n fW_law_785 rfl 3 rfl ?_
        obtain ⟨⟨bc, bs⟩, V⟩ := V
        obtain ⟨A, X, hm, V, VX⟩ := V
        refine e_callWi (uc' := (uc - 4)) (us' := (us - 24)) (st := []) fW_law_786 wW_law_786 rfl rfl hm (Nat.le_of_ble_eq_true rfl) (by show 4 + _ ≤ _; omega) (by show 24 + _ ≤ _; omega) (fun r151 h150 ga => ?_) (fun E h150 gx => ?_)
        · have V := V _ _ ga
          refine e_istore (ls' := [(5, .int r151), (0, .ref ((g_sb G))), (1, .ref a1), (2, .ref a2), (3, .ref a3), (4, .int a4)]) fW_law_789 (by decide) rfl ?_
          refine e_aload_n fW_law_791 rfl 3 rfl ?_
          refine e_aload_n fW_law_792 rfl 1 rfl ?_
          refine e_iload fW_law_793 5 rfl ?_
          refine e_iconst (v := 1) fW_law_795 (by decide) ?_
          refine e_iadd fW_law_796 ?_
          obtain ⟨gi, V⟩ := V
          refine e_sld fW_law_797 gi ?_
          refine e_aload_n fW_law_798 rfl 1 rfl ?_
          refine e_iload fW_law_799 5 rfl ?_
          refine e_iconst (v := 2) fW_law_801 (by decide) ?_
          refine e_iadd fW_law_802 ?_
          obtain ⟨gi, V⟩ := V
          refine e_sld fW_law_803 gi ?_
          refine e_aload_n fW_law_804 rfl 1 rfl ?_
          refine e_iload fW_law_805 5 rfl ?_
          refine e_iconst (v := 3) fW_law_807 (by decide) ?_
          refine e_iadd fW_law_808 ?_
          obtain ⟨gi, V⟩ := V
          refine e_sld fW_law_809 gi ?_
          obtain ⟨J156, VJ156, V⟩ := V
          have KJ156 : ∀ (j155 : Int32), J156 j155 → Ev l G M_W_law 818 [(0, .ref ((g_sb G))), (1, .ref a1), (2, .ref a2), (3, .ref a3), (4, .int a4), (5, .int r151)] [.int j155, .int (g_xs G (Int32.toNatClampNeg (a4 + 2))), .int (g_xs G (Int32.toNatClampNeg (a4 + 1))), .ref a2] h150 (uc - 4) (us - 24) (lw_fin G) := by
            intro j155 hj
            have V := Eq.mp (congrFun VJ156 j155) hj
            obtain ⟨gc, V⟩ := V
            obtain ⟨⟨bc, bs⟩, V⟩ := V
            obtain ⟨A, X, hm, V, VX⟩ := V
            refine e_callVi (uc' := (uc - 4)) (us' := (us - 24)) (st := []) fW_law_818 wW_law_818 rfl rfl gc hm (Nat.le_of_ble_eq_true rfl) (by show 0 + _ ≤ _; omega) (by show 0 + _ ≤ _; omega) (fun r158 h157 ga => ?_) (fun E h157 gx => ?_)
            · have V := V _ _ ga
              refine e_istore (ls' := [(6, .int r158), (0, .ref ((g_sb G))), (1, .ref a1), (2, .ref a2), (3, .ref a3), (4, .int a4), (5, .int r151)]) fW_law_821 (by decide) rfl ?_
              refine e_aload_n fW_law_823 rfl 3 rfl ?_
              obtain ⟨v160, gv160, V⟩ := V
              obtain ⟨gc, V⟩ := V
              refine e_callVi (uc' := (uc - 4)) (us' := (us - 24)) (st := []) fW_law_824 wW_law_824 rfl rfl gc (sp_R_thrown gv160) (Nat.le_of_ble_eq_true rfl) (by show 0 + _ ≤ _; omega) (by show 0 + _ ≤ _; omega) (fun r162 h161 ga => ?_) (fun E h161 gx => False.elim gx)
              obtain ⟨rfl, ge⟩ := ga
              replace ge := ge.symm
              subst ge
              refine e_iload fW_law_827 6 rfl ?_
              refine e_icmp_eq (tgt := 834) fW_law_829 (by decide) (fun z => ?_) (fun z => ?_)
              · have V := V.1 z
                refine e_iload fW_law_834 6 rfl ?_
                refine e_if_ne (tgt := 851) fW_law_836 (by decide) (fun z => ?_) (fun z => ?_)
                · have V := V.1 z
                  refine e_goto (tgt := 1182) fW_law_851 (by decide) ?_
                  obtain ⟨x163, ex163⟩ : ∃ z : Int32, z = a4 + 5 := ⟨_, rfl⟩
                  have V := V x163 ex163
                  refine e_iinc (v := x163) (k := 5) (ls' := [(4, .int x163), (6, .int r158), (0, .ref ((g_sb G))), (1, .ref a1), (2, .ref a2), (3, .ref a3), (5, .int r151)]) fW_law_1182 rfl (by rw [ex163]; rfl) (by decide) rfl ?_
                  refine e_goto (tgt := 23) fW_law_1185 (by decide) ?_
                  exact Ev.loc [2, 3, 4, 5, 0] rfl V
                · have V := V.2 z
                  refine e_aload_n fW_law_839 rfl 4 rfl ?_
                  refine e_iconst (v := 0) fW_law_840 (by decide) ?_
                  obtain ⟨v164, g0, gv164, V⟩ := V
                  refine e_lald fW_law_841 g0 gv164 ?_
                  refine e_iload fW_law_842 0 rfl ?_
                  refine e_i2l fW_law_844 rfl ?_
                  refine e_lcmp fW_law_845 ?_
                  refine e_if_eq (tgt := 851) fW_law_846 (by decide) (fun z => ?_) (fun z => ?_)
                  · have V := V.1 z
                    refine e_goto (tgt := 1182) fW_law_851 (by decide) ?_
                    obtain ⟨x165, ex165⟩ : ∃ z : Int32, z = a4 + 5 := ⟨_, rfl⟩
                    have V := V x165 ex165
                    refine e_iinc (v := x165) (k := 5) (ls' := [(4, .int x165), (6, .int r158), (0, .ref ((g_sb G))), (1, .ref a1), (2, .ref a2), (3, .ref a3), (5, .int r151)]) fW_law_1182 rfl (by rw [ex165]; rfl) (by decide) rfl ?_
                    refine e_goto (tgt := 23) fW_law_1185 (by decide) ?_
                    exact Ev.loc [2, 3, 4, 5, 0] rfl V
                  · have V := V.2 z
                    refine e_iconst (v := 0) fW_law_849 (by decide) ?_
                    exact e_lawret fW_law_850 V
              · have V := V.2 z
                refine e_iconst (v := 0) fW_law_832 (by decide) ?_
                exact e_lawret fW_law_833 V
            · exact (VX E _ gx).elim
          refine e_if_eq (tgt := 817) fW_law_810 (by decide) (fun z => ?_) (fun z => ?_)
          · have V := V.1 z
            refine e_iconst (v := 0) fW_law_817 (by decide) ?_
            exact Ev.widen (Nat.le_refl _) (Nat.le_refl _) (Ev.loc [1, 2, 3, 4, 5, 0] rfl (KJ156 _ V))
          · have V := V.2 z
            refine e_iconst (v := 1) fW_law_813 (by decide) ?_
            refine e_goto (tgt := 818) fW_law_814 (by decide) ?_
            exact Ev.widen (Nat.le_refl _) (Nat.le_refl _) (Ev.loc [1, 2, 3, 4, 5, 0] rfl (KJ156 _ V))
        · exact (VX E _ gx).elim
      refine e_if_eq (tgt := 784) fW_law_777 (by decide) (fun z => ?_) (fun z => ?_)
      · have V := V.1 z
        refine e_iconst (v := 0) fW_law_784 (by decide) ?_
        exact Ev.widen (Nat.le_refl _) (Nat.le_refl _) (Ev.loc [0, 1, 2, 3, 4] rfl (KJ149 _ V))
      · have V := V.2 z
        refine e_iconst (v := 1) fW_law_780 (by decide) ?_
        refine e_goto (tgt := 785) fW_law_781 (by decide) ?_
        exact Ev.widen (Nat.le_refl _) (Nat.le_refl _) (Ev.loc [0, 1, 2, 3, 4] rfl (KJ149 _ V))
    by_cases z10 : ((g_xs G (Int32.toNatClampNeg a4)) &&& 15) = 10
    · have V := V.2.2.2.2.2.2.2.2.2.2.1 z10
      refine e_tin (tgt := 854) fW_law_39 (by rw [z10]; decide) (by rw [z10]; decide) (by rw [z10]; rfl) (by decide) ?_
      refine e_aload_n fW_law_854 rfl 1 rfl ?_
      refine e_aload_n fW_law_855 rfl 0 rfl ?_
      refine e_iload fW_law_856 4 rfl ?_
      refine e_iconst (v := 1) fW_law_858 (by decide) ?_
      refine e_iadd fW_law_859 ?_
      obtain ⟨gi, V⟩ := V
      refine e_sld fW_law_860 gi ?_
      refine e_aload_n fW_law_861 rfl 3 rfl ?_
      obtain ⟨⟨bc, bs⟩, V⟩ := V
      obtain ⟨A, X, hm, V, VX⟩ := V
      refine e_callWi (uc' := (uc - 14)) (us' := (us - 354)) (st := []) fW_law_862 wW_law_862 rfl rfl hm (Nat.le_of_ble_eq_true rfl) (by show 14 + _ ≤ _; omega) (by show 354 + _ ≤ _; omega) (fun r168 h167 ga => ?_) (fun E h167 gx => ?_)
      · have V := V _ _ ga
        refine e_istore (ls' := [(5, .int r168), (0, .ref ((g_sb G))), (1, .ref a1), (2, .ref a2), (3, .ref a3), (4, .int a4)]) fW_law_865 (by decide) rfl ?_
        refine e_aload_n fW_law_867 rfl 3 rfl ?_
        refine e_aload_n fW_law_868 rfl 1 rfl ?_
        refine e_iload fW_law_869 5 rfl ?_
        refine e_iconst (v := 1) fW_law_871 (by decide) ?_
        refine e_iadd fW_law_872 ?_
        obtain ⟨gi, V⟩ := V
        refine e_sld fW_law_873 gi ?_
        obtain ⟨gc, V⟩ := V
        obtain ⟨⟨bc, bs⟩, V⟩ := V
        obtain ⟨A, X, hm, V, VX⟩ := V
        refine e_callVi (uc' := (uc - 14)) (us' := (us - 354)) (st := []) fW_law_874 wW_law_874 rfl rfl gc hm (Nat.le_of_ble_eq_true rfl) (by show 0 + _ ≤ _; omega) (by show 0 + _ ≤ _; omega) (fun r171 h170 ga => ?_) (fun E h170 gx => ?_)
        · have V := V _ _ ga
          refine e_istore (ls' := [(6, .int r171), (5, .int r168), (0, .ref ((g_sb G))), (1, .ref a1), (2, .ref a2), (3, .ref a3), (4, .int a4)]) fW_law_877 (by decide) rfl ?_
          refine e_aload_n fW_law_879 rfl 4 rfl ?_
          obtain ⟨v173, gv173, V⟩ := V
          obtain ⟨gc, V⟩ := V
          refine e_callVi (uc' := (uc - 14)) (us' := (us - 354)) (st := []) fW_law_880 wW_law_880 rfl rfl gc (sp_R_thrown gv173) (Nat.le_of_ble_eq_true rfl) (by show 0 + _ ≤ _; omega) (by show 0 + _ ≤ _; omega) (fun r175 h174 ga => ?_) (fun E h174 gx => False.elim gx)
          obtain ⟨rfl, ge⟩ := ga
          replace ge := ge.symm
          subst ge
          refine e_iload fW_law_883 1 rfl ?_
          refine e_icmp_eq (tgt := 890) fW_law_885 (by decide) (fun z => ?_) (fun z => ?_)
          · have V := V.1 z
            refine e_iload fW_law_890 1 rfl ?_
            refine e_if_ne (tgt := 907) fW_law_892 (by decide) (fun z => ?_) (fun z => ?_)
            · have V := V.1 z
              refine e_goto (tgt := 1182) fW_law_907 (by decide) ?_
              obtain ⟨x176, ex176⟩ : ∃ z : Int32, z = a4 + 5 := ⟨_, rfl⟩
              have V := V x176 ex176
              refine e_iinc (v := x176) (k := 6) (ls' := [(4, .int x176), (6, .int r171), (5, .int r168), (0, .ref ((g_sb G))), (1, .ref a1), (2, .ref a2), (3, .ref a3)]) fW_law_1182 rfl (by rw [ex176]; rfl) (by decide) rfl ?_
              refine e_goto (tgt := 23) fW_law_1185 (by decide) ?_
              exact Ev.loc [3, 4, 5, 6, 0] rfl V
            · have V := V.2 z
              refine e_aload_n fW_law_895 rfl 5 rfl ?_
              refine e_iconst (v := 0) fW_law_896 (by decide) ?_
              obtain ⟨v177, g0, gv177, V⟩ := V
              refine e_lald fW_law_897 g0 gv177 ?_
              refine e_iload fW_law_898 0 rfl ?_
              refine e_i2l fW_law_900 rfl ?_
              refine e_lcmp fW_law_901 ?_
              refine e_if_eq (tgt := 907) fW_law_902 (by decide) (fun z => ?_) (fun z => ?_)
              · have V := V.1 z
                refine e_goto (tgt := 1182) fW_law_907 (by decide) ?_
                obtain ⟨x178, ex178⟩ : ∃ z : Int32, z = a4 + 5 := ⟨_, rfl⟩
                have V := V x178 ex178
                refine e_iinc (v := x178) (k := 6) (ls' := [(4, .int x178), (6, .int r171), (5, .int r168), (0, .ref ((g_sb G))), (1, .ref a1), (2, .ref a2), (3, .ref a3)]) fW_law_1182 rfl (by rw [ex178]; rfl) (by decide) rfl ?_
                refine e_goto (tgt := 23) fW_law_1185 (by decide) ?_
                exact Ev.loc [3, 4, 5, 6, 0] rfl V
              · have V := V.2 z
                refine e_iconst (v := 0) fW_law_905 (by decide) ?_
                exact e_lawret fW_law_906 V
          · have V := V.2 z
            refine e_iconst (v := 0) fW_law_888 (by decide) ?_
            exact e_lawret fW_law_889 V
        · exact (VX E _ gx).elim
      · exact (VX E _ gx).elim
    by_cases z11 : ((g_xs G (Int32.toNatClampNeg a4)) &&& 15) = 11
    · have V := V.2.2.2.2.2.2.2.2.2.2.2.1 z11
      refine e_tin (tgt := 910) fW_law_39 (by rw [z11]; decide) (by rw [z11]; decide) (by rw [z11]; rfl) (by decide) ?_
      refine e_aload_n fW_law_910 rfl 1 rfl ?_
      refine e_aload_n fW_law_911 rfl 0 rfl ?_
      refine e_iload fW_law_912 4 rfl ?_
      refine e_iconst (v := 1) fW_law_914 (by decide) ?_
      refine e_iadd fW_law_915 ?_
      obtain ⟨gi, V⟩ := V
      refine e_sld fW_law_916 gi ?_
      refine e_aload_n fW_law_917 rfl 3 rfl ?_
      obtain ⟨⟨bc, bs⟩, V⟩ := V
      obtain ⟨A, X, hm, V, VX⟩ := V
      refine e_callWi (uc' := (uc - 1)) (us' := (us - 6)) (st := []) fW_law_918 wW_law_918 rfl rfl hm (Nat.le_of_ble_eq_true rfl) (by show 1 + _ ≤ _; omega) (by show 6 + _ ≤ _; omega) (fun r181 h180 ga => ?_) (fun E h180 gx => ?_)
      · have V := V _ _ ga
        refine e_istore (ls' := [(5, .int r181), (0, .ref ((g_sb G))), (1, .ref a1), (2, .ref a2), (3, .ref a3), (4, .int a4)]) fW_law_921 (by decide) rfl ?_
        refine e_aload_n fW_law_923 rfl 3 rfl ?_
        refine e_aload_n fW_law_924 rfl 1 rfl ?_
        refine e_iload fW_law_925 5 rfl ?_
        refine e_iconst (v := 1) fW_law_927 (by decide) ?_
        refine e_iadd fW_law_928 ?_
        obtain ⟨gi, V⟩ := V
        refine e_sld fW_law_929 gi ?_
        obtain ⟨gc, V⟩ := V
        obtain ⟨⟨bc, bs⟩, V⟩ := V
        obtain ⟨A, X, hm, V, VX⟩ := V
        refine e_callVi (uc' := (uc - 1)) (us' := (us - 6)) (st := []) fW_law_930 wW_law_930 rfl rfl gc hm (Nat.le_of_ble_eq_true rfl) (by show 0 + _ ≤ _; omega) (by show 0 + _ ≤ _; omega) (fun r184 h183 ga => ?_) (fun E h183 gx => ?_)
        · have V := V _ _ ga
          refine e_istore (ls' := [(6, .int r184), (5, .int r181), (0, .ref ((g_sb G))), (1, .ref a1), (2, .ref a2), (3, .ref a3), (4, .int a4)]) fW_law_933 (by decide) rfl ?_
          refine e_aload_n fW_law_935 rfl 4 rfl ?_
          obtain ⟨v186, gv186, V⟩ := V
          obtain ⟨gc, V⟩ := V
          refine e_callVi (uc' := (uc - 1)) (us' := (us - 6)) (st := []) fW_law_936 wW_law_936 rfl rfl gc (sp_R_thrown gv186) (Nat.le_of_ble_eq_true rfl) (by show 0 + _ ≤ _; omega) (by show 0 + _ ≤ _; omega) (fun r188 h187 ga => ?_) (fun E h187 gx => False.elim gx)
          obtain ⟨rfl, ge⟩ := ga
          replace ge := ge.symm
          subst ge
          refine e_iload fW_law_939 1 rfl ?_
          refine e_icmp_eq (tgt := 946) fW_law_941 (by decide) (fun z => ?_) (fun z => ?_)
          · have V := V.1 z
            refine e_iload fW_law_946 1 rfl ?_
            refine e_if_ne (tgt := 963) fW_law_948 (by decide) (fun z => ?_) (fun z => ?_)
            · have V := V.1 z
              refine e_goto (tgt := 1182) fW_law_963 (by decide) ?_
              obtain ⟨x189, ex189⟩ : ∃ z : Int32, z = a4 + 5 := ⟨_, rfl⟩
              have V := V x189 ex189
              refine e_iinc (v := x189) (k := 6) (ls' := [(4, .int x189), (6, .int r184), (5, .int r181), (0, .ref ((g_sb G))), (1, .ref a1), (2, .ref a2), (3, .ref a3)]) fW_law_1182 rfl (by rw [ex189]; rfl) (by decide) rfl ?_
              refine e_goto (tgt := 23) fW_law_1185 (by decide) ?_
              exact Ev.loc [3, 4, 5, 6, 0] rfl V
            · have V := V.2 z
              refine e_aload_n fW_law_951 rfl 5 rfl ?_
              refine e_iconst (v := 0) fW_law_952 (by decide) ?_
              obtain ⟨v190, g0, gv190, V⟩ := V
              refine e_lald fW_law_953 g0 gv190 ?_
              refine e_iload fW_law_954 0 rfl ?_
              refine e_i2l fW_law_956 rfl ?_
              refine e_lcmp fW_law_957 ?_
              refine e_if_eq (tgt := 963) fW_law_958 (by decide) (fun z => ?_) (fun z => ?_)
              · have V := V.1 z
                refine e_goto (tgt := 1182) fW_law_963 (by decide) ?_
                obtain ⟨x191, ex191⟩ : ∃ z : Int32, z = a4 + 5 := ⟨_, rfl⟩
                have V := V x191 ex191
                refine e_iinc (v := x191) (k := 6) (ls' := [(4, .int x191), (6, .int r184), (5, .int r181), (0, .ref ((g_sb G))), (1, .ref a1), (2, .ref a2), (3, .ref a3)]) fW_law_1182 rfl (by rw [ex191]; rfl) (by decide) rfl ?_
                refine e_goto (tgt := 23) fW_law_1185 (by decide) ?_
                exact Ev.loc [3, 4, 5, 6, 0] rfl V
              · have V := V.2 z
                refine e_iconst (v := 0) fW_law_961 (by decide) ?_
                exact e_lawret fW_law_962 V
          · have V := V.2 z
            refine e_iconst (v := 0) fW_law_944 (by decide) ?_
            exact e_lawret fW_law_945 V
        · exact (VX E _ gx).elim
      · exact (VX E _ gx).elim
    by_cases z12 : ((g_xs G (Int32.toNatClampNeg a4)) &&& 15) = 12
    · have V := V.2.2.2.2.2.2.2.2.2.2.2.2.1 z12
      refine e_tin (tgt := 966) fW_law_39 (by rw [z12]; decide) (by rw [z12]; decide) (by rw [z12]; rfl) (by decide) ?_
      refine e_aload_n fW_law_966 rfl 1 rfl ?_
      refine e_aload_n fW_law_967 rfl 0 rfl ?_
      refine e_iload fW_law_968 4 rfl ?_
      refine e_iconst (v := 1) fW_law_970 (by decide) ?_
      refine e_iadd fW_law_971 ?_
      obtain ⟨gi, V⟩ := V
      refine e_sld fW_law_972 gi ?_
      refine e_aload_n fW_law_973 rfl 0 rfl ?_
      refine e_iload fW_law_974 4 rfl ?_
      refine e_iconst (v := 2) fW_law_976 (by decide) ?_
      refine e_iadd fW_law_977 ?_
      obtain ⟨gi, V⟩ := V
      refine e_sld fW_law_978 gi ?_
      refine e_aload_n fW_law_979 rfl 3 rfl ?_
      obtain ⟨⟨bc, bs⟩, V⟩ := V
      obtain ⟨A, X, hm, V, VX⟩ := V
      refine e_callWi (uc' := (uc - 2)) (us' := (us - 12)) (st := []) fW_law_980 wW_law_980 rfl rfl hm (Nat.le_of_ble_eq_true rfl) (by show 2 + _ ≤ _; omega) (by show 12 + _ ≤ _; omega) (fun r195 h194 ga => ?_) (fun E h194 gx => ?_)
      · have V := V _ _ ga
        refine e_istore (ls' := [(5, .int r195), (0, .ref ((g_sb G))), (1, .ref a1), (2, .ref a2), (3, .ref a3), (4, .int a4)]) fW_law_983 (by decide) rfl ?_
        refine e_aload_n fW_law_985 rfl 3 rfl ?_
        refine e_aload_n fW_law_986 rfl 1 rfl ?_
        refine e_iload fW_law_987 5 rfl ?_
        refine e_iconst (v := 1) fW_law_989 (by decide) ?_
        refine e_iadd fW_law_990 ?_
        obtain ⟨gi, V⟩ := V
        refine e_sld fW_law_991 gi ?_
        refine e_aload_n fW_law_992 rfl 1 rfl ?_
        refine e_iload fW_law_993 5 rfl ?_
        refine e_iconst (v := 2) fW_law_995 (by decide) ?_
        refine e_iadd fW_law_996 ?_
        obtain ⟨gi, V⟩ := V
        refine e_sld fW_law_997 gi ?_
        obtain ⟨gc, V⟩ := V
        obtain ⟨⟨bc, bs⟩, V⟩ := V
        obtain ⟨A, X, hm, V, VX⟩ := V
        refine e_callVi (uc' := (uc - 2)) (us' := (us - 12)) (st := []) fW_law_998 wW_law_998 rfl rfl gc hm (Nat.le_of_ble_eq_true rfl) (by show 0 + _ ≤ _; omega) (by show 0 + _ ≤ _; omega) (fun r199 h198 ga => ?_) (fun E h198 gx => ?_)
        · have V := V _ _ ga
          refine e_istore (ls' := [(6, .int r199), (5, .int r195), (0, .ref ((g_sb G))), (1, .ref a1), (2, .ref a2), (3, .ref a3), (4, .int a4)]) fW_law_1001 (by decide) rfl ?_
          refine e_aload_n fW_law_1003 rfl 4 rfl ?_
          obtain ⟨v201, gv201, V⟩ := V
          obtain ⟨gc, V⟩ := V
          refine e_callVi (uc' := (uc - 2)) (us' := (us - 12)) (st := []) fW_law_1004 wW_law_1004 rfl rfl gc (sp_R_thrown gv201) (Nat.le_of_ble_eq_true rfl) (by show 0 + _ ≤ _; omega) (by show 0 + _ ≤ _; omega) (fun r203 h202 ga => ?_) (fun E h202 gx => False.elim gx)
          obtain ⟨rfl, ge⟩ := ga
          replace ge := ge.symm
          subst ge
          refine e_iload fW_law_1007 1 rfl ?_
          refine e_icmp_eq (tgt := 1014) fW_law_1009 (by decide) (fun z => ?_) (fun z => ?_)
          · have V := V.1 z
            refine e_iload fW_law_1014 1 rfl ?_
            refine e_if_ne (tgt := 1031) fW_law_1016 (by decide) (fun z => ?_) (fun z => ?_)
            · have V := V.1 z
              refine e_goto (tgt := 1182) fW_law_1031 (by decide) ?_
              obtain ⟨x204, ex204⟩ : ∃ z : Int32, z = a4 + 5 := ⟨_, rfl⟩
              have V := V x204 ex204
              refine e_iinc (v := x204) (k := 6) (ls' := [(4, .int x204), (6, .int r199), (5, .int r195), (0, .ref ((g_sb G))), (1, .ref a1), (2, .ref a2), (3, .ref a3)]) fW_law_1182 rfl (by rw [ex204]; rfl) (by decide) rfl ?_
              refine e_goto (tgt := 23) fW_law_1185 (by decide) ?_
              exact Ev.loc [3, 4, 5, 6, 0] rfl V
            · have V := V.2 z
              refine e_aload_n fW_law_1019 rfl 5 rfl ?_
              refine e_iconst (v := 0) fW_law_1020 (by decide) ?_
              obtain ⟨v205, g0, gv205, V⟩ := V
              refine e_lald fW_law_1021 g0 gv205 ?_
              refine e_iload fW_law_1022 0 rfl ?_
              refine e_i2l fW_law_1024 rfl ?_
              refine e_lcmp fW_law_1025 ?_
              refine e_if_eq (tgt := 1031) fW_law_1026 (by decide) (fun z => ?_) (fun z => ?_)
              · have V := V.1 z
                refine e_goto (tgt := 1182) fW_law_1031 (by decide) ?_
                obtain ⟨x206, ex206⟩ : ∃ z : Int32, z = a4 + 5 := ⟨_, rfl⟩
                have V := V x206 ex206
                refine e_iinc (v := x206) (k := 6) (ls' := [(4, .int x206), (6, .int r199), (5, .int r195), (0, .ref ((g_sb G))), (1, .ref a1), (2, .ref a2), (3, .ref a3)]) fW_law_1182 rfl (by rw [ex206]; rfl) (by decide) rfl ?_
                refine e_goto (tgt := 23) fW_law_1185 (by decide) ?_
                exact Ev.loc [3, 4, 5, 6, 0] rfl V
              · have V := V.2 z
                refine e_iconst (v := 0) fW_law_1029 (by decide) ?_
                exact e_lawret fW_law_1030 V
          · have V := V.2 z
            refine e_iconst (v := 0) fW_law_1012 (by decide) ?_
            exact e_lawret fW_law_1013 V
        · exact (VX E _ gx).elim
      · exact (VX E _ gx).elim
    by_cases z13 : ((g_xs G (Int32.toNatClampNeg a4)) &&& 15) = 13
    · have V := V.2.2.2.2.2.2.2.2.2.2.2.2.2.1 z13
      refine e_tin (tgt := 1034) fW_law_39 (by rw [z13]; decide) (by rw [z13]; decide) (by rw [z13]; rfl) (by decide) ?_
      refine e_aload_n fW_law_1034 rfl 1 rfl ?_
      refine e_aload_n fW_law_1035 rfl 0 rfl ?_
      refine e_iload fW_law_1036 4 rfl ?_
      refine e_iconst (v := 1) fW_law_1038 (by decide) ?_
      refine e_iadd fW_law_1039 ?_
      obtain ⟨gi, V⟩ := V
      refine e_sld fW_law_1040 gi ?_
      refine e_aload_n fW_law_1041 rfl 0 rfl ?_
      refine e_iload fW_law_1042 4 rfl ?_
      refine e_iconst (v := 2) fW_law_1044 (by decide) ?_
      refine e_iadd fW_law_1045 ?_
      obtain ⟨gi, V⟩ := V
      refine e_sld fW_law_1046 gi ?_
      refine e_aload_n fW_law_1047 rfl 3 rfl ?_
      obtain ⟨⟨bc, bs⟩, V⟩ := V
      obtain ⟨A, X, hm, V, VX⟩ := V
      refine e_callWi (uc' := (uc - 2)) (us' := (us - 12)) (st := []) fW_law_1048 wW_law_1048 rfl rfl hm (Nat.le_of_ble_eq_true rfl) (by show 2 + _ ≤ _; omega) (by show 12 + _ ≤ _; omega) (fun r210 h209 ga => ?_) (fun E h209 gx => ?_)
      · have V := V _ _ ga
        refine e_istore (ls' := [(5, .int r210), (0, .ref ((g_sb G))), (1, .ref a1), (2, .ref a2), (3, .ref a3), (4, .int a4)]) fW_law_1051 (by decide) rfl ?_
        refine e_aload_n fW_law_1053 rfl 3 rfl ?_
        refine e_aload_n fW_law_1054 rfl 1 rfl ?_
        refine e_iload fW_law_1055 5 rfl ?_
        refine e_iconst (v := 1) fW_law_1057 (by decide) ?_
        refine e_iadd fW_law_1058 ?_
        obtain ⟨gi, V⟩ := V
        refine e_sld fW_law_1059 gi ?_
        refine e_aload_n fW_law_1060 rfl 1 rfl ?_
        refine e_iload fW_law_1061 5 rfl ?_
        refine e_iconst (v := 2) fW_law_1063 (by decide) ?_
        refine e_iadd fW_law_1064 ?_
        obtain ⟨gi, V⟩ := V
        refine e_sld fW_law_1065 gi ?_
        obtain ⟨gc, V⟩ := V
        obtain ⟨⟨bc, bs⟩, V⟩ := V
        obtain ⟨A, X, hm, V, VX⟩ := V
        refine e_callVi (uc' := (uc - 2)) (us' := (us - 12)) (st := []) fW_law_1066 wW_law_1066 rfl rfl gc hm (Nat.le_of_ble_eq_true rfl) (by show 0 + _ ≤ _; omega) (by show 0 + _ ≤ _; omega) (fun r214 h213 ga => ?_) (fun E h213 gx => ?_)
        · have V := V _ _ ga
          refine e_istore (ls' := [(6, .int r214), (5, .int r210), (0, .ref ((g_sb G))), (1, .ref a1), (2, .ref a2), (3, .ref a3), (4, .int a4)]) fW_law_1069 (by decide) rfl ?_
          refine e_aload_n fW_law_1071 rfl 4 rfl ?_
          obtain ⟨v216, gv216, V⟩ := V
          obtain ⟨gc, V⟩ := V
          refine e_callVi (uc' := (uc - 2)) (us' := (us - 12)) (st := []) fW_law_1072 wW_law_1072 rfl rfl gc (sp_R_thrown gv216) (Nat.le_of_ble_eq_true rfl) (by show 0 + _ ≤ _; omega) (by show 0 + _ ≤ _; omega) (fun r218 h217 ga => ?_) (fun E h217 gx => False.elim gx)
          obtain ⟨rfl, ge⟩ := ga
          replace ge := ge.symm
          subst ge
          refine e_iload fW_law_1075 1 rfl ?_
          refine e_icmp_eq (tgt := 1082) fW_law_1077 (by decide) (fun z => ?_) (fun z => ?_)
          · have V := V.1 z
            refine e_iload fW_law_1082 1 rfl ?_
            refine e_if_ne (tgt := 1099) fW_law_1084 (by decide) (fun z => ?_) (fun z => ?_)
            · have V := V.1 z
              refine e_goto (tgt := 1182) fW_law_1099 (by decide) ?_
              obtain ⟨x219, ex219⟩ : ∃ z : Int32, z = a4 + 5 := ⟨_, rfl⟩
              have V := V x219 ex219
              refine e_iinc (v := x219) (k := 6) (ls' := [(4, .int x219), (6, .int r214), (5, .int r210), (0, .ref ((g_sb G))), (1, .ref a1), (2, .ref a2), (3, .ref a3)]) fW_law_1182 rfl (by rw [ex219]; rfl) (by decide) rfl ?_
              refine e_goto (tgt := 23) fW_law_1185 (by decide) ?_
              exact Ev.loc [3, 4, 5, 6, 0] rfl V
            · have V := V.2 z
              refine e_aload_n fW_law_1087 rfl 5 rfl ?_
              refine e_iconst (v := 0) fW_law_1088 (by decide) ?_
              obtain ⟨v220, g0, gv220, V⟩ := V
              refine e_lald fW_law_1089 g0 gv220 ?_
              refine e_iload fW_law_1090 0 rfl ?_
              refine e_i2l fW_law_1092 rfl ?_
              refine e_lcmp fW_law_1093 ?_
              refine e_if_eq (tgt := 1099) fW_law_1094 (by decide) (fun z => ?_) (fun z => ?_)
              · have V := V.1 z
                refine e_goto (tgt := 1182) fW_law_1099 (by decide) ?_
                obtain ⟨x221, ex221⟩ : ∃ z : Int32, z = a4 + 5 := ⟨_, rfl⟩
                have V := V x221 ex221
                refine e_iinc (v := x221) (k := 6) (ls' := [(4, .int x221), (6, .int r214), (5, .int r210), (0, .ref ((g_sb G))), (1, .ref a1), (2, .ref a2), (3, .ref a3)]) fW_law_1182 rfl (by rw [ex221]; rfl) (by decide) rfl ?_
                refine e_goto (tgt := 23) fW_law_1185 (by decide) ?_
                exact Ev.loc [3, 4, 5, 6, 0] rfl V
              · have V := V.2 z
                refine e_iconst (v := 0) fW_law_1097 (by decide) ?_
                exact e_lawret fW_law_1098 V
          · have V := V.2 z
            refine e_iconst (v := 0) fW_law_1080 (by decide) ?_
            exact e_lawret fW_law_1081 V
        · exact (VX E _ gx).elim
      · exact (VX E _ gx).elim
    by_cases z14 : ((g_xs G (Int32.toNatClampNeg a4)) &&& 15) = 14
    · have V := V.2.2.2.2.2.2.2.2.2.2.2.2.2.2.1 z14
      refine e_tin (tgt := 1102) fW_law_39 (by rw [z14]; decide) (by rw [z14]; decide) (by rw [z14]; rfl) (by decide) ?_
      refine e_aload_n fW_law_1102 rfl 1 rfl ?_
      refine e_aload_n fW_law_1103 rfl 0 rfl ?_
      refine e_iload fW_law_1104 4 rfl ?_
      refine e_iconst (v := 1) fW_law_1106 (by decide) ?_
      refine e_iadd fW_law_1107 ?_
      obtain ⟨gi, V⟩ := V
      refine e_sld fW_law_1108 gi ?_
      refine e_aload_n fW_law_1109 rfl 3 rfl ?_
      obtain ⟨⟨bc, bs⟩, V⟩ := V
      obtain ⟨A, X, hm, V, VX⟩ := V
      refine e_callWi (uc' := (uc - 1)) (us' := (us - 6)) (st := []) fW_law_1110 wW_law_1110 rfl rfl hm (Nat.le_of_ble_eq_true rfl) (by show 1 + _ ≤ _; omega) (by show 6 + _ ≤ _; omega) (fun r224 h223 ga => ?_) (fun E h223 gx => ?_)
      · have V := V _ _ ga
        refine e_istore (ls' := [(5, .int r224), (0, .ref ((g_sb G))), (1, .ref a1), (2, .ref a2), (3, .ref a3), (4, .int a4)]) fW_law_1113 (by decide) rfl ?_
        refine e_aload_n fW_law_1115 rfl 3 rfl ?_
        refine e_aload_n fW_law_1116 rfl 1 rfl ?_
        refine e_iload fW_law_1117 5 rfl ?_
        refine e_iconst (v := 1) fW_law_1119 (by decide) ?_
        refine e_iadd fW_law_1120 ?_
        obtain ⟨gi, V⟩ := V
        refine e_sld fW_law_1121 gi ?_
        obtain ⟨gc, V⟩ := V
        obtain ⟨⟨bc, bs⟩, V⟩ := V
        obtain ⟨A, X, hm, V, VX⟩ := V
        refine e_callVl (uc' := (uc - 1)) (us' := (us - 6)) (st := []) fW_law_1122 wW_law_1122 rfl rfl gc hm (Nat.le_of_ble_eq_true rfl) (by show 0 + _ ≤ _; omega) (by show 0 + _ ≤ _; omega) (fun r227 h226 ga => ?_) (fun E h226 gx => ?_)
        · have V := V _ _ ga
          refine e_lstore (ls' := [(6, .long r227), (5, .int r224), (0, .ref ((g_sb G))), (1, .ref a1), (2, .ref a2), (3, .ref a3), (4, .int a4)]) fW_law_1125 (by decide) rfl ?_
          refine e_aload_n fW_law_1127 rfl 4 rfl ?_
          obtain ⟨v229, gv229, V⟩ := V
          obtain ⟨gc, V⟩ := V
          refine e_callVi (uc' := (uc - 1)) (us' := (us - 6)) (st := []) fW_law_1128 wW_law_1128 rfl rfl gc (sp_R_thrown gv229) (Nat.le_of_ble_eq_true rfl) (by show 0 + _ ≤ _; omega) (by show 0 + _ ≤ _; omega) (fun r231 h230 ga => ?_) (fun E h230 gx => False.elim gx)
          obtain ⟨rfl, ge⟩ := ga
          replace ge := ge.symm
          subst ge
          refine e_iload fW_law_1131 1 rfl ?_
          refine e_icmp_eq (tgt := 1138) fW_law_1133 (by decide) (fun z => ?_) (fun z => ?_)
          · have V := V.1 z
            refine e_iload fW_law_1138 1 rfl ?_
            refine e_if_ne (tgt := 1154) fW_law_1140 (by decide) (fun z => ?_) (fun z => ?_)
            · have V := V.1 z
              refine e_goto (tgt := 1182) fW_law_1154 (by decide) ?_
              obtain ⟨x232, ex232⟩ : ∃ z : Int32, z = a4 + 5 := ⟨_, rfl⟩
              have V := V x232 ex232
              refine e_iinc (v := x232) (k := 6) (ls' := [(4, .int x232), (6, .long r227), (5, .int r224), (0, .ref ((g_sb G))), (1, .ref a1), (2, .ref a2), (3, .ref a3)]) fW_law_1182 rfl (by rw [ex232]; rfl) (by decide) rfl ?_
              refine e_goto (tgt := 23) fW_law_1185 (by decide) ?_
              exact Ev.loc [3, 4, 5, 6, 0] rfl V
            · have V := V.2 z
              refine e_aload_n fW_law_1143 rfl 5 rfl ?_
              refine e_iconst (v := 0) fW_law_1144 (by decide) ?_
              obtain ⟨v233, g0, gv233, V⟩ := V
              refine e_lald fW_law_1145 g0 gv233 ?_
              refine e_lload fW_law_1146 0 rfl ?_
              refine e_lcmp fW_law_1148 ?_
              refine e_if_eq (tgt := 1154) fW_law_1149 (by decide) (fun z => ?_) (fun z => ?_)
              · have V := V.1 z
                refine e_goto (tgt := 1182) fW_law_1154 (by decide) ?_
                obtain ⟨x234, ex234⟩ : ∃ z : Int32, z = a4 + 5 := ⟨_, rfl⟩
                have V := V x234 ex234
                refine e_iinc (v := x234) (k := 6) (ls' := [(4, .int x234), (6, .long r227), (5, .int r224), (0, .ref ((g_sb G))), (1, .ref a1), (2, .ref a2), (3, .ref a3)]) fW_law_1182 rfl (by rw [ex234]; rfl) (by decide) rfl ?_
                refine e_goto (tgt := 23) fW_law_1185 (by decide) ?_
                exact Ev.loc [3, 4, 5, 6, 0] rfl V
              · have V := V.2 z
                refine e_iconst (v := 0) fW_law_1152 (by decide) ?_
                exact e_lawret fW_law_1153 V
          · have V := V.2 z
            refine e_iconst (v := 0) fW_law_1136 (by decide) ?_
            exact e_lawret fW_law_1137 V
        · exact (VX E _ gx).elim
      · exact (VX E _ gx).elim
    by_cases z15 : ((g_xs G (Int32.toNatClampNeg a4)) &&& 15) = 15
    · have V := V.2.2.2.2.2.2.2.2.2.2.2.2.2.2.2.1 z15
      refine e_tin (tgt := 1157) fW_law_39 (by rw [z15]; decide) (by rw [z15]; decide) (by rw [z15]; rfl) (by decide) ?_
      refine e_aload_n fW_law_1157 rfl 1 rfl ?_
      refine e_aload_n fW_law_1158 rfl 0 rfl ?_
      refine e_iload fW_law_1159 4 rfl ?_
      refine e_iconst (v := 1) fW_law_1161 (by decide) ?_
      refine e_iadd fW_law_1162 ?_
      obtain ⟨gi, V⟩ := V
      refine e_sld fW_law_1163 gi ?_
      obtain ⟨gc, V⟩ := V
      obtain ⟨⟨bc, bs⟩, V⟩ := V
      obtain ⟨A, X, hm, V, VX⟩ := V
      refine e_callVi (uc' := uc) (us' := us) (st := []) fW_law_1164 wW_law_1164 rfl rfl gc hm (Nat.le_of_ble_eq_true rfl) (by show 0 + _ ≤ _; omega) (by show 0 + _ ≤ _; omega) (fun r237 h236 ga => ?_) (fun E h236 gx => ?_)
      · have V := V _ _ ga
        refine e_aload_n fW_law_1167 rfl 2 rfl ?_
        refine e_aload_n fW_law_1168 rfl 0 rfl ?_
        refine e_iload fW_law_1169 4 rfl ?_
        refine e_iconst (v := 1) fW_law_1171 (by decide) ?_
        refine e_iadd fW_law_1172 ?_
        obtain ⟨gi, V⟩ := V
        refine e_sld fW_law_1173 gi ?_
        obtain ⟨gc, V⟩ := V
        obtain ⟨⟨bc, bs⟩, V⟩ := V
        obtain ⟨A, X, hm, V, VX⟩ := V
        refine e_callVi (uc' := uc) (us' := us) (st := [.int r237]) fW_law_1174 wW_law_1174 rfl rfl gc hm (Nat.le_of_ble_eq_true rfl) (by show 0 + _ ≤ _; omega) (by show 0 + _ ≤ _; omega) (fun r240 h239 ga => ?_) (fun E h239 gx => ?_)
        · have V := V _ _ ga
          refine e_icmp_eq (tgt := 1182) fW_law_1177 (by decide) (fun z => ?_) (fun z => ?_)
          · have V := V.1 z
            obtain ⟨x241, ex241⟩ : ∃ z : Int32, z = a4 + 5 := ⟨_, rfl⟩
            have V := V x241 ex241
            refine e_iinc (v := x241) (k := 4) (ls' := [(4, .int x241), (0, .ref ((g_sb G))), (1, .ref a1), (2, .ref a2), (3, .ref a3)]) fW_law_1182 rfl (by rw [ex241]; rfl) (by decide) rfl ?_
            refine e_goto (tgt := 23) fW_law_1185 (by decide) ?_
            exact Ev.loc [1, 2, 3, 4, 0] rfl V
          · have V := V.2 z
            refine e_iconst (v := 0) fW_law_1180 (by decide) ?_
            exact e_lawret fW_law_1181 V
        · exact (VX E _ gx).elim
      · exact (VX E _ gx).elim
    have V := V.2.2.2.2.2.2.2.2.2.2.2.2.2.2.2.2 ⟨z0, z1, z2, z3, z4, z5, z6, z7, z8, z9, z10, z11, z12, z13, z14, z15⟩
    refine e_tout (tgt := 1182) fW_law_39 (ev_out (x := (g_xs G (Int32.toNatClampNeg a4)) &&& 15) 16 (fun k hk => by rcases (show k = 0 ∨ k = 1 ∨ k = 2 ∨ k = 3 ∨ k = 4 ∨ k = 5 ∨ k = 6 ∨ k = 7 ∨ k = 8 ∨ k = 9 ∨ k = 10 ∨ k = 11 ∨ k = 12 ∨ k = 13 ∨ k = 14 ∨ k = 15 by omega) with rfl | rfl | rfl | rfl | rfl | rfl | rfl | rfl | rfl | rfl | rfl | rfl | rfl | rfl | rfl | rfl <;> first | exact z0 | exact z1 | exact z2 | exact z3 | exact z4 | exact z5 | exact z6 | exact z7 | exact z8 | exact z9 | exact z10 | exact z11 | exact z12 | exact z13 | exact z14 | exact z15)) (by decide) ?_
    obtain ⟨x242, ex242⟩ : ∃ z : Int32, z = a4 + 5 := ⟨_, rfl⟩
    have V := V x242 ex242
    refine e_iinc (v := x242) (k := 4) (ls' := [(4, .int x242), (0, .ref ((g_sb G))), (1, .ref a1), (2, .ref a2), (3, .ref a3)]) fW_law_1182 rfl (by rw [ex242]; rfl) (by decide) rfl ?_
    refine e_goto (tgt := 23) fW_law_1185 (by decide) ?_
    exact Ev.loc [1, 2, 3, 4, 0] rfl V
set_option maxRecDepth 20000 in
theorem vW_law {l : Launch} {G : ev_G} {h : ev_AH} (V : ∀ q1 : Nat, h q1 = none → ∀ h2 : ev_AH, h2 = ev_up h q1 (0, [.null, .null]) → ∃ (A : ev_AH → Prop), Mt l G M_X_init [.ref q1] h2 (ev_pv A (fun _ _ => False)) ∧ (∀ h3 : ev_AH, A h3 → ∀ q4 : Nat, h3 q4 = none → ∀ h5 : ev_AH, h5 = ev_up h3 q4 (4, [.int 0, .int 0, .null, .null, .null, .null, .null, .null, .null, .null, .null, .null, .int 0, .null, .null, .null, .null, .null, .null, .null, .null, .null, .null]) → ∃ (A : ev_AH → Prop), Mt l G M_R_init [.ref q4] h5 (ev_pv A (fun _ _ => False)) ∧ (∀ h6 : ev_AH, A h6 → ∀ q7 : Nat, h6 q7 = none → ∀ h8 : ev_AH, h8 = ev_up h6 q7 (102, List.replicate 1 (.long 0)) → Ev l G M_W_law 23 [(0, .ref ((g_sb G))), (1, .ref q1), (2, .ref q4), (3, .ref q7), (4, .int 0)] [] h8 600998 7292062 (lw_fin G)))) : Ev l G M_W_law 0 [(0, .ref ((g_sb G)))] [] h 601024 7293034 (lw_fin G) := by
  refine e_new (uc' := 601023) (us' := 7293032) fW_law_0 nW_8 rfl (by decide) (by decide) (fun q1 gq1 h2 eh2 => ?_)
  have V := V q1 gq1 h2 eh2
  refine e_dup fW_law_3 rfl ?_
  obtain ⟨A, hm, V⟩ := V
  refine e_callIv (uc' := 601021) (us' := 7293026) (st := [.ref q1]) fW_law_4 wW_law_4 rfl rfl hm (Nat.le_of_ble_eq_true rfl) (by decide) (by decide) (fun h3 ga => ?_)
  have V := V _ ga
  refine e_astore_n (ls' := [(1, .ref q1), (0, .ref ((g_sb G)))]) fW_law_7 rfl (by decide) rfl ?_
  refine e_new (uc' := 601020) (us' := 7293003) fW_law_8 nW_71 rfl (by decide) (by decide) (fun q4 gq4 h5 eh5 => ?_)
  have V := V q4 gq4 h5 eh5
  refine e_dup fW_law_11 rfl ?_
  obtain ⟨A, hm, V⟩ := V
  refine e_callIv (uc' := 600999) (us' := 7292063) (st := [.ref q4]) fW_law_12 wW_law_12 rfl rfl hm (Nat.le_of_ble_eq_true rfl) (by decide) (by decide) (fun h6 ga => ?_)
  have V := V _ ga
  refine e_astore_n (ls' := [(2, .ref q4), (1, .ref q1), (0, .ref ((g_sb G)))]) fW_law_15 rfl (by decide) rfl ?_
  refine e_iconst (v := 1) fW_law_16 (by decide) ?_
  refine e_newa2 (n := 1) (uc' := 600998) (us' := 7292062) fW_law_17 tb_arr2 (by decide) (by decide) (by decide) (by decide) (fun q7 gq7 h8 eh8 => ?_)
  have V := V q7 gq7 h8 eh8
  refine e_astore_n (ls' := [(3, .ref q7), (2, .ref q4), (1, .ref q1), (0, .ref ((g_sb G)))]) fW_law_19 rfl (by decide) rfl ?_
  refine e_iconst (v := 0) fW_law_20 (by decide) ?_
  refine e_istore (ls' := [(4, .int 0), (3, .ref q7), (2, .ref q4), (1, .ref q1), (0, .ref ((g_sb G)))]) fW_law_21 (by decide) rfl ?_
  exact Ev.loc [4, 3, 2, 1, 0] rfl V
