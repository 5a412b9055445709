/-! WALKS: more helpers -/
set_option maxRecDepth 20000 in
theorem vA_size {l : Launch} {G : ev_G} {h : ev_AH} {P : ev_Post} {p0 : Nat} (V : ∃ v1 : Int32, ev_f h p0 3 1 = some (.int v1) ∧ P (.inl (some (.int v1))) h) : Mt l G M_A_size [.ref p0] h P := by
  refine Mt.ofJ rfl rfl (Nat.le_of_ble_eq_true rfl) ?_
  show Ev l G M_A_size 0 [(0, .ref p0)] [] h 0 0 (ev_fin G M_A_size P)
  refine e_aload_n fA_size_0 rfl 0 rfl ?_
  obtain ⟨v1, gv1, V⟩ := V
  refine e_get fA_size_1 kA_48 gv1 ?_
  exact e_iret fA_size_4 rfl V
set_option maxRecDepth 20000 in
theorem vJp_checkIndex {l : Launch} {G : ev_G} {h : ev_AH} {P : ev_Post} {p0 : Int32} {p1 : Int32} (V : ((p0 < 0 → False) ∧ (¬ p0 < 0 → ((p0 < p1 → P (.inl (some (.int p0))) h) ∧ (¬ p0 < p1 → False))))) : Mt l G M_Jp_checkIndex [.int p0, .int p1, .null] h P := by
  refine Mt.ofJ rfl rfl (Nat.le_of_ble_eq_true rfl) ?_
  show Ev l G M_Jp_checkIndex 0 [(0, .int p0), (1, .int p1), (2, .null)] [] h 0 0 (ev_fin G M_Jp_checkIndex P)
  refine e_iload_n fJp_checkIndex_0 rfl 0 rfl ?_
  refine e_if_lt (tgt := 9) fJp_checkIndex_1 (by decide) (fun z => ?_) (fun z => ?_)
  · have V := V.1 z
    exact V.elim
  · have V := V.2 z
    refine e_iload_n fJp_checkIndex_4 rfl 0 rfl ?_
    refine e_iload_n fJp_checkIndex_5 rfl 1 rfl ?_
    refine e_icmp_lt (tgt := 16) fJp_checkIndex_6 (by decide) (fun z => ?_) (fun z => ?_)
    · have V := V.1 z
      refine e_iload_n fJp_checkIndex_16 rfl 0 rfl ?_
      exact e_iret fJp_checkIndex_17 rfl V
    · have V := V.2 z
      exact V.elim
set_option maxRecDepth 20000 in
theorem vJo_checkIndex {l : Launch} {G : ev_G} {h : ev_AH} {P : ev_Post} {p0 : Int32} {p1 : Int32} (V : ∃ (A : Int32 → ev_AH → Prop) (X : String → ev_AH → Prop), Mt l G M_Jp_checkIndex [.int p0, .int p1, .null] h (ev_pi A X) ∧ (∀ (r2 : Int32) (h1 : ev_AH), A r2 h1 → P (.inl (some (.int r2))) h1) ∧ (∀ (E : String) (h9 : ev_AH), X E h9 → P (.inr E) h9)) : Mt l G M_Jo_checkIndex [.int p0, .int p1] h P := by
  refine Mt.ofJ rfl rfl (Nat.le_of_ble_eq_true rfl) ?_
  show Ev l G M_Jo_checkIndex 0 [(0, .int p0), (1, .int p1)] [] h 0 0 (ev_fin G M_Jo_checkIndex P)
  refine e_iload_n fJo_checkIndex_0 rfl 0 rfl ?_
  refine e_iload_n fJo_checkIndex_1 rfl 1 rfl ?_
  refine e_null fJo_checkIndex_2 ?_
  obtain ⟨A, X, hm, V, VX⟩ := V
  refine e_callSi (uc' := 0) (us' := 0) (st := []) fJo_checkIndex_3 wJo_checkIndex_3 rfl rfl hm (Nat.le_of_ble_eq_true rfl) (by decide) (by decide) (fun r2 h1 ga => ?_) (fun E h1 gx => ?_)
  · have V := V _ _ ga
    exact e_iret fJo_checkIndex_6 rfl V
  · exact e_out (by decide) (VX E _ gx)
set_option maxRecDepth 20000 in
theorem vA_elementData {l : Launch} {G : ev_G} {h : ev_AH} {P : ev_Post} {p0 : Nat} {p1 : Int32} (V : ∃ v1 : Nat, ev_f h p0 3 0 = some (.ref v1) ∧ ∃ v2 : Nat, ¬ p1 < 0 ∧ ev_f h v1 103 (Int32.toNatClampNeg p1) = some (.ref v2) ∧ P (.inl (some (.ref v2))) h) : Mt l G M_A_elementData [.ref p0, .int p1] h P := by
  refine Mt.ofJ rfl rfl (Nat.le_of_ble_eq_true rfl) ?_
  show Ev l G M_A_elementData 0 [(0, .ref p0), (1, .int p1)] [] h 0 0 (ev_fin G M_A_elementData P)
  refine e_aload_n fA_elementData_0 rfl 0 rfl ?_
  obtain ⟨v1, gv1, V⟩ := V
  refine e_get fA_elementData_1 kA_9 gv1 ?_
  refine e_iload_n fA_elementData_4 rfl 1 rfl ?_
  obtain ⟨v2, g0, gv2, V⟩ := V
  refine e_aald fA_elementData_5 g0 gv2 ?_
  exact e_aret fA_elementData_6 rfl (Or.inl ⟨_, rfl⟩) V
set_option maxRecDepth 20000 in
theorem vO_comesBefore {l : Launch} {G : ev_G} {h : ev_AH} {P : ev_Post} {p0 : Nat} {p1 : Nat} (V : ∃ v1 : Int32, ev_f h p0 1 3 = some (.int v1) ∧ ∃ v2 : Int32, ev_f h p1 1 3 = some (.int v2) ∧ ((v1 = v2 → ∃ v3 : Int32, ev_f h p0 1 5 = some (.int v3) ∧ ∃ v4 : Int32, ev_f h p1 1 5 = some (.int v4) ∧ ((v3 = v4 → ∃ v5 : Int32, ev_f h p0 1 0 = some (.int v5) ∧ ∃ v6 : Int32, ev_f h p1 1 0 = some (.int v6) ∧ ((v6 ≤ v5 → P (.inl (some (.int 0))) h) ∧ (¬ v6 ≤ v5 → P (.inl (some (.int 1))) h))) ∧ (¬ v3 = v4 → ∃ v7 : Int32, ev_f h p0 1 5 = some (.int v7) ∧ ∃ v8 : Int32, ev_f h p1 1 5 = some (.int v8) ∧ ((v8 ≤ v7 → P (.inl (some (.int 0))) h) ∧ (¬ v8 ≤ v7 → P (.inl (some (.int 1))) h))))) ∧ (¬ v1 = v2 → ∃ v9 : Int32, ev_f h p0 1 3 = some (.int v9) ∧ ∃ v10 : Int32, ev_f h p1 1 3 = some (.int v10) ∧ ((v10 ≤ v9 → P (.inl (some (.int 0))) h) ∧ (¬ v10 ≤ v9 → P (.inl (some (.int 1))) h))))) : Mt l G M_O_comesBefore [.ref p0, .ref p1] h P := by
  refine Mt.of rfl rfl (Nat.le_of_ble_eq_true rfl) ?_
  show Ev l G M_O_comesBefore 0 [(0, .ref p0), (1, .ref p1)] [] h 0 0 (ev_fin G M_O_comesBefore P)
  refine e_aload_n fO_comesBefore_0 rfl 0 rfl ?_
  obtain ⟨v1, gv1, V⟩ := V
  refine e_get fO_comesBefore_1 kO_21 gv1 ?_
  refine e_aload_n fO_comesBefore_4 rfl 1 rfl ?_
  obtain ⟨v2, gv2, V⟩ := V
  refine e_get fO_comesBefore_5 kO_21 gv2 ?_
  refine e_icmp_eq (tgt := 28) fO_comesBefore_8 (by decide) (fun z => ?_) (fun z => ?_)
  · have V := V.1 z
    refine e_aload_n fO_comesBefore_28 rfl 0 rfl ?_
    obtain ⟨v3, gv3, V⟩ := V
    refine e_get fO_comesBefore_29 kO_24 gv3 ?_
    refine e_aload_n fO_comesBefore_32 rfl 1 rfl ?_
    obtain ⟨v4, gv4, V⟩ := V
    refine e_get fO_comesBefore_33 kO_24 gv4 ?_
    refine e_icmp_eq (tgt := 56) fO_comesBefore_36 (by decide) (fun z => ?_) (fun z => ?_)
    · have V := V.1 z
      refine e_aload_n fO_comesBefore_56 rfl 0 rfl ?_
      obtain ⟨v5, gv5, V⟩ := V
      refine e_get fO_comesBefore_57 kO_9 gv5 ?_
      refine e_aload_n fO_comesBefore_60 rfl 1 rfl ?_
      obtain ⟨v6, gv6, V⟩ := V
      refine e_get fO_comesBefore_61 kO_9 gv6 ?_
      refine e_icmp_ge (tgt := 71) fO_comesBefore_64 (by decide) (fun z => ?_) (fun z => ?_)
      · have V := V.1 z
        refine e_iconst (v := 0) fO_comesBefore_71 (by decide) ?_
        exact e_zret fO_comesBefore_72 rfl rfl V
      · have V := V.2 z
        refine e_iconst (v := 1) fO_comesBefore_67 (by decide) ?_
        refine e_goto (tgt := 72) fO_comesBefore_68 (by decide) ?_
        exact e_zret fO_comesBefore_72 rfl rfl V
    · have V := V.2 z
      refine e_aload_n fO_comesBefore_39 rfl 0 rfl ?_
      obtain ⟨v7, gv7, V⟩ := V
      refine e_get fO_comesBefore_40 kO_24 gv7 ?_
      refine e_aload_n fO_comesBefore_43 rfl 1 rfl ?_
      obtain ⟨v8, gv8, V⟩ := V
      refine e_get fO_comesBefore_44 kO_24 gv8 ?_
      refine e_icmp_ge (tgt := 54) fO_comesBefore_47 (by decide) (fun z => ?_) (fun z => ?_)
      · have V := V.1 z
        refine e_iconst (v := 0) fO_comesBefore_54 (by decide) ?_
        exact e_zret fO_comesBefore_55 rfl rfl V
      · have V := V.2 z
        refine e_iconst (v := 1) fO_comesBefore_50 (by decide) ?_
        refine e_goto (tgt := 55) fO_comesBefore_51 (by decide) ?_
        exact e_zret fO_comesBefore_55 rfl rfl V
  · have V := V.2 z
    refine e_aload_n fO_comesBefore_11 rfl 0 rfl ?_
    obtain ⟨v9, gv9, V⟩ := V
    refine e_get fO_comesBefore_12 kO_21 gv9 ?_
    refine e_aload_n fO_comesBefore_15 rfl 1 rfl ?_
    obtain ⟨v10, gv10, V⟩ := V
    refine e_get fO_comesBefore_16 kO_21 gv10 ?_
    refine e_icmp_ge (tgt := 26) fO_comesBefore_19 (by decide) (fun z => ?_) (fun z => ?_)
    · have V := V.1 z
      refine e_iconst (v := 0) fO_comesBefore_26 (by decide) ?_
      exact e_zret fO_comesBefore_27 rfl rfl V
    · have V := V.2 z
      refine e_iconst (v := 1) fO_comesBefore_22 (by decide) ?_
      refine e_goto (tgt := 27) fO_comesBefore_23 (by decide) ?_
      exact e_zret fO_comesBefore_27 rfl rfl V
set_option maxRecDepth 20000 in
theorem vR_thrown {l : Launch} {G : ev_G} {h : ev_AH} {P : ev_Post} {p0 : Nat} (V : ∃ v1 : Int32, ev_f h p0 4 0 = some (.int v1) ∧ P (.inl (some (.int v1))) h) : Mt l G M_R_thrown [.ref p0] h P := by
  refine Mt.of rfl rfl (Nat.le_of_ble_eq_true rfl) ?_
  show Ev l G M_R_thrown 0 [(0, .ref p0)] [] h 0 0 (ev_fin G M_R_thrown P)
  refine e_aload_n fR_thrown_0 rfl 0 rfl ?_
  obtain ⟨v1, gv1, V⟩ := V
  refine e_get fR_thrown_1 kR_71 gv1 ?_
  exact e_iret fR_thrown_4 rfl V
set_option maxRecDepth 20000 in
theorem vR_isOrder {l : Launch} {G : ev_G} {h : ev_AH} {P : ev_Post} {p0 : Nat} {p1 : Int32} (V : ∃ v1 : Int32, ev_f h p0 4 1 = some (.int v1) ∧ narrow .boolean (.int (ev_b (0 ≤ p1 ∧ p1 ≤ (v1 - 1)))) = .int (ev_b (0 ≤ p1 ∧ p1 ≤ (v1 - 1))) ∧ P (.inl (some (.int (ev_b (0 ≤ p1 ∧ p1 ≤ (v1 - 1)))))) h) : Mt l G M_R_isOrder [.ref p0, .int p1] h P := by
  refine Mt.of rfl rfl (Nat.le_of_ble_eq_true rfl) ?_
  show Ev l G M_R_isOrder 0 [(0, .ref p0), (1, .int p1)] [] h 0 0 (ev_fin G M_R_isOrder P)
  refine e_iload_n fR_isOrder_0 rfl 1 rfl ?_
  refine e_iconst (v := 0) fR_isOrder_1 (by decide) ?_
  refine e_aload_n fR_isOrder_2 rfl 0 rfl ?_
  obtain ⟨v1, gv1, V⟩ := V
  refine e_get fR_isOrder_3 kR_75 gv1 ?_
  refine e_iconst (v := 1) fR_isOrder_6 (by decide) ?_
  refine e_isub fR_isOrder_7 ?_
  refine e_callSi (uc' := 0) (us' := 0) (st := []) fR_isOrder_8 wR_isOrder_8 rfl rfl sp_R_in (Nat.le_of_ble_eq_true rfl) (by decide) (by decide) (fun r4 h3 ga => ?_) (fun E h3 gx => False.elim gx)
  obtain ⟨rfl, ge⟩ := ga
  replace ge := ge.symm
  subst ge
  exact e_zret fR_isOrder_11 rfl V.1 V.2
set_option maxRecDepth 20000 in
theorem vR_isLine {l : Launch} {G : ev_G} {h : ev_AH} {P : ev_Post} {p0 : Nat} {p1 : Int32} (V : ∃ v1 : Int32, ev_f h p0 4 12 = some (.int v1) ∧ narrow .boolean (.int (ev_b (0 ≤ p1 ∧ p1 ≤ (v1 - 1)))) = .int (ev_b (0 ≤ p1 ∧ p1 ≤ (v1 - 1))) ∧ P (.inl (some (.int (ev_b (0 ≤ p1 ∧ p1 ≤ (v1 - 1)))))) h) : Mt l G M_R_isLine [.ref p0, .int p1] h P := by
  refine Mt.of rfl rfl (Nat.le_of_ble_eq_true rfl) ?_
  show Ev l G M_R_isLine 0 [(0, .ref p0), (1, .int p1)] [] h 0 0 (ev_fin G M_R_isLine P)
  refine e_iload_n fR_isLine_0 rfl 1 rfl ?_
  refine e_iconst (v := 0) fR_isLine_1 (by decide) ?_
  refine e_aload_n fR_isLine_2 rfl 0 rfl ?_
  obtain ⟨v1, gv1, V⟩ := V
  refine e_get fR_isLine_3 kR_82 gv1 ?_
  refine e_iconst (v := 1) fR_isLine_6 (by decide) ?_
  refine e_isub fR_isLine_7 ?_
  refine e_callSi (uc' := 0) (us' := 0) (st := []) fR_isLine_8 wR_isLine_8 rfl rfl sp_R_in (Nat.le_of_ble_eq_true rfl) (by decide) (by decide) (fun r4 h3 ga => ?_) (fun E h3 gx => False.elim gx)
  obtain ⟨rfl, ge⟩ := ga
  replace ge := ge.symm
  subst ge
  exact e_zret fR_isLine_11 rfl V.1 V.2
set_option maxRecDepth 20000 in
theorem vR_has {l : Launch} {G : ev_G} {h : ev_AH} {P : ev_Post} {p0 : Nat} {p1 : Int32} {p2 : Int32} (V : ∃ v1 : Nat, ev_f h p0 4 16 = some (.ref v1) ∧ ∃ v2 : Int32, ¬ p1 < 0 ∧ ev_f h v1 100 (Int32.toNatClampNeg p1) = some (.int v2) ∧ (((v2 &&& p2) = 0 → P (.inl (some (.int 0))) h) ∧ (¬ (v2 &&& p2) = 0 → P (.inl (some (.int 1))) h))) : Mt l G M_R_has [.ref p0, .int p1, .int p2] h P := by
  refine Mt.of rfl rfl (Nat.le_of_ble_eq_true rfl) ?_
  show Ev l G M_R_has 0 [(0, .ref p0), (1, .int p1), (2, .int p2)] [] h 0 0 (ev_fin G M_R_has P)
  refine e_aload_n fR_has_0 rfl 0 rfl ?_
  obtain ⟨v1, gv1, V⟩ := V
  refine e_get fR_has_1 kR_49 gv1 ?_
  refine e_iload_n fR_has_4 rfl 1 rfl ?_
  obtain ⟨v2, g0, gv2, V⟩ := V
  refine e_iald fR_has_5 g0 gv2 ?_
  refine e_iload_n fR_has_6 rfl 2 rfl ?_
  refine e_iand fR_has_7 ?_
  refine e_if_eq (tgt := 15) fR_has_8 (by decide) (fun z => ?_) (fun z => ?_)
  · have V := V.1 z
    refine e_iconst (v := 0) fR_has_15 (by decide) ?_
    exact e_zret fR_has_16 rfl rfl V
  · have V := V.2 z
    refine e_iconst (v := 1) fR_has_11 (by decide) ?_
    refine e_goto (tgt := 16) fR_has_12 (by decide) ?_
    exact e_zret fR_has_16 rfl rfl V
set_option maxRecDepth 20000 in
theorem vR_lineAt {l : Launch} {G : ev_G} {h : ev_AH} {P : ev_Post} {p0 : Nat} {p1 : Int32} {p2 : Int32} (V : ∃ v1 : Nat, ev_f h p0 4 11 = some (.ref v1) ∧ ∃ v2 : Int32, ¬ ((8 * p1) + p2) < 0 ∧ ev_f h v1 100 (Int32.toNatClampNeg ((8 * p1) + p2)) = some (.int v2) ∧ P (.inl (some (.int v2))) h) : Mt l G M_R_lineAt [.ref p0, .int p1, .int p2] h P := by
  refine Mt.of rfl rfl (Nat.le_of_ble_eq_true rfl) ?_
  show Ev l G M_R_lineAt 0 [(0, .ref p0), (1, .int p1), (2, .int p2)] [] h 0 0 (ev_fin G M_R_lineAt P)
  refine e_aload_n fR_lineAt_0 rfl 0 rfl ?_
  obtain ⟨v1, gv1, V⟩ := V
  refine e_get fR_lineAt_1 kR_37 gv1 ?_
  refine e_bipush (v := 8) fR_lineAt_4 (by decide) ?_
  refine e_iload_n fR_lineAt_6 rfl 1 rfl ?_
  refine e_imul fR_lineAt_7 ?_
  refine e_iload_n fR_lineAt_8 rfl 2 rfl ?_
  refine e_iadd fR_lineAt_9 ?_
  obtain ⟨v2, g0, gv2, V⟩ := V
  refine e_iald fR_lineAt_10 g0 gv2 ?_
  exact e_iret fR_lineAt_11 rfl V
set_option maxRecDepth 20000 in
theorem vR_isWaiting {l : Launch} {G : ev_G} {h : ev_AH} {P : ev_Post} {p0 : Nat} {p1 : Int32} (V : ∃ v1 : Nat, ev_f h p0 4 6 = some (.ref v1) ∧ ∃ v2 : Int32, ¬ p1 < 0 ∧ ev_f h v1 100 (Int32.toNatClampNeg p1) = some (.int v2) ∧ ((1 < v2 → P (.inl (some (.int 0))) h) ∧ (¬ 1 < v2 → ∃ v3 : Nat, ev_f h p0 4 7 = some (.ref v3) ∧ ∃ v4 : Int32, ¬ p1 < 0 ∧ ev_f h v3 100 (Int32.toNatClampNeg p1) = some (.int v4) ∧ ((¬ v4 = 0 → P (.inl (some (.int 0))) h) ∧ (v4 = 0 → P (.inl (some (.int 1))) h))))) : Mt l G M_R_isWaiting [.ref p0, .int p1] h P := by
  refine Mt.of rfl rfl (Nat.le_of_ble_eq_true rfl) ?_
  show Ev l G M_R_isWaiting 0 [(0, .ref p0), (1, .int p1)] [] h 0 0 (ev_fin G M_R_isWaiting P)
  refine e_aload_n fR_isWaiting_0 rfl 0 rfl ?_
  obtain ⟨v1, gv1, V⟩ := V
  refine e_get fR_isWaiting_1 kR_22 gv1 ?_
  refine e_iload_n fR_isWaiting_4 rfl 1 rfl ?_
  obtain ⟨v2, g0, gv2, V⟩ := V
  refine e_iald fR_isWaiting_5 g0 gv2 ?_
  refine e_iconst (v := 1) fR_isWaiting_6 (by decide) ?_
  refine e_icmp_gt (tgt := 23) fR_isWaiting_7 (by decide) (fun z => ?_) (fun z => ?_)
  · have V := V.1 z
    refine e_iconst (v := 0) fR_isWaiting_23 (by decide) ?_
    exact e_zret fR_isWaiting_24 rfl rfl V
  · have V := V.2 z
    refine e_aload_n fR_isWaiting_10 rfl 0 rfl ?_
    obtain ⟨v3, gv3, V⟩ := V
    refine e_get fR_isWaiting_11 kR_25 gv3 ?_
    refine e_iload_n fR_isWaiting_14 rfl 1 rfl ?_
    obtain ⟨v4, g0, gv4, V⟩ := V
    refine e_iald fR_isWaiting_15 g0 gv4 ?_
    refine e_if_ne (tgt := 23) fR_isWaiting_16 (by decide) (fun z => ?_) (fun z => ?_)
    · have V := V.1 z
      refine e_iconst (v := 0) fR_isWaiting_23 (by decide) ?_
      exact e_zret fR_isWaiting_24 rfl rfl V
    · have V := V.2 z
      refine e_iconst (v := 1) fR_isWaiting_19 (by decide) ?_
      refine e_goto (tgt := 24) fR_isWaiting_20 (by decide) ?_
      exact e_zret fR_isWaiting_24 rfl rfl V
set_option maxRecDepth 20000 in
theorem vR_isBefore {l : Launch} {G : ev_G} {h : ev_AH} {P : ev_Post} {p0 : Nat} {p1 : Int32} {p2 : Int32} (V : ∃ v1 : Nat, ev_f h p0 4 4 = some (.ref v1) ∧ ∃ v2 : Int32, ¬ p1 < 0 ∧ ev_f h v1 100 (Int32.toNatClampNeg p1) = some (.int v2) ∧ ∃ v3 : Nat, ev_f h p0 4 4 = some (.ref v3) ∧ ∃ v4 : Int32, ¬ p2 < 0 ∧ ev_f h v3 100 (Int32.toNatClampNeg p2) = some (.int v4) ∧ ((v2 = v4 → ∃ v5 : Nat, ev_f h p0 4 5 = some (.ref v5) ∧ ∃ v6 : Int32, ¬ p1 < 0 ∧ ev_f h v5 100 (Int32.toNatClampNeg p1) = some (.int v6) ∧ ∃ v7 : Nat, ev_f h p0 4 5 = some (.ref v7) ∧ ∃ v8 : Int32, ¬ p2 < 0 ∧ ev_f h v7 100 (Int32.toNatClampNeg p2) = some (.int v8) ∧ ((v6 = v8 → ((p2 ≤ p1 → P (.inl (some (.int 0))) h) ∧ (¬ p2 ≤ p1 → P (.inl (some (.int 1))) h))) ∧ (¬ v6 = v8 → ∃ v9 : Nat, ev_f h p0 4 5 = some (.ref v9) ∧ ∃ v10 : Int32, ¬ p1 < 0 ∧ ev_f h v9 100 (Int32.toNatClampNeg p1) = some (.int v10) ∧ ∃ v11 : Nat, ev_f h p0 4 5 = some (.ref v11) ∧ ∃ v12 : Int32, ¬ p2 < 0 ∧ ev_f h v11 100 (Int32.toNatClampNeg p2) = some (.int v12) ∧ ((v12 ≤ v10 → P (.inl (some (.int 0))) h) ∧ (¬ v12 ≤ v10 → P (.inl (some (.int 1))) h))))) ∧ (¬ v2 = v4 → ∃ v13 : Nat, ev_f h p0 4 4 = some (.ref v13) ∧ ∃ v14 : Int32, ¬ p1 < 0 ∧ ev_f h v13 100 (Int32.toNatClampNeg p1) = some (.int v14) ∧ ∃ v15 : Nat, ev_f h p0 4 4 = some (.ref v15) ∧ ∃ v16 : Int32, ¬ p2 < 0 ∧ ev_f h v15 100 (Int32.toNatClampNeg p2) = some (.int v16) ∧ ((v16 ≤ v14 → P (.inl (some (.int 0))) h) ∧ (¬ v16 ≤ v14 → P (.inl (some (.int 1))) h))))) : Mt l G M_R_isBefore [.ref p0, .int p1, .int p2] h P := by
  refine Mt.of rfl rfl (Nat.le_of_ble_eq_true rfl) ?_
  show Ev l G M_R_isBefore 0 [(0, .ref p0), (1, .int p1), (2, .int p2)] [] h 0 0 (ev_fin G M_R_isBefore P)
  refine e_aload_n fR_isBefore_0 rfl 0 rfl ?_
  obtain ⟨v1, gv1, V⟩ := V
  refine e_get fR_isBefore_1 kR_16 gv1 ?_
  refine e_iload_n fR_isBefore_4 rfl 1 rfl ?_
  obtain ⟨v2, g0, gv2, V⟩ := V
  refine e_iald fR_isBefore_5 g0 gv2 ?_
  refine e_aload_n fR_isBefore_6 rfl 0 rfl ?_
  obtain ⟨v3, gv3, V⟩ := V
  refine e_get fR_isBefore_7 kR_16 gv3 ?_
  refine e_iload_n fR_isBefore_10 rfl 2 rfl ?_
  obtain ⟨v4, g0, gv4, V⟩ := V
  refine e_iald fR_isBefore_11 g0 gv4 ?_
  refine e_icmp_eq (tgt := 36) fR_isBefore_12 (by decide) (fun z => ?_) (fun z => ?_)
  · have V := V.1 z
    refine e_aload_n fR_isBefore_36 rfl 0 rfl ?_
    obtain ⟨v5, gv5, V⟩ := V
    refine e_get fR_isBefore_37 kR_19 gv5 ?_
    refine e_iload_n fR_isBefore_40 rfl 1 rfl ?_
    obtain ⟨v6, g0, gv6, V⟩ := V
    refine e_iald fR_isBefore_41 g0 gv6 ?_
    refine e_aload_n fR_isBefore_42 rfl 0 rfl ?_
    obtain ⟨v7, gv7, V⟩ := V
    refine e_get fR_isBefore_43 kR_19 gv7 ?_
    refine e_iload_n fR_isBefore_46 rfl 2 rfl ?_
    obtain ⟨v8, g0, gv8, V⟩ := V
    refine e_iald fR_isBefore_47 g0 gv8 ?_
    refine e_icmp_eq (tgt := 74) fR_isBefore_48 (by decide) (fun z => ?_) (fun z => ?_)
    · have V := V.1 z
      refine e_iload_n fR_isBefore_74 rfl 1 rfl ?_
      refine e_iload_n fR_isBefore_75 rfl 2 rfl ?_
      refine e_icmp_ge (tgt := 83) fR_isBefore_76 (by decide) (fun z => ?_) (fun z => ?_)
      · have V := V.1 z
        refine e_iconst (v := 0) fR_isBefore_83 (by decide) ?_
        exact e_zret fR_isBefore_84 rfl rfl V
      · have V := V.2 z
        refine e_iconst (v := 1) fR_isBefore_79 (by decide) ?_
        refine e_goto (tgt := 84) fR_isBefore_80 (by decide) ?_
        exact e_zret fR_isBefore_84 rfl rfl V
    · have V := V.2 z
      refine e_aload_n fR_isBefore_51 rfl 0 rfl ?_
      obtain ⟨v9, gv9, V⟩ := V
      refine e_get fR_isBefore_52 kR_19 gv9 ?_
      refine e_iload_n fR_isBefore_55 rfl 1 rfl ?_
      obtain ⟨v10, g0, gv10, V⟩ := V
      refine e_iald fR_isBefore_56 g0 gv10 ?_
      refine e_aload_n fR_isBefore_57 rfl 0 rfl ?_
      obtain ⟨v11, gv11, V⟩ := V
      refine e_get fR_isBefore_58 kR_19 gv11 ?_
      refine e_iload_n fR_isBefore_61 rfl 2 rfl ?_
      obtain ⟨v12, g0, gv12, V⟩ := V
      refine e_iald fR_isBefore_62 g0 gv12 ?_
      refine e_icmp_ge (tgt := 70) fR_isBefore_63 (by decide) (fun z => ?_) (fun z => ?_)
      · have V := V.1 z
        refine e_iconst (v := 0) fR_isBefore_70 (by decide) ?_
        refine e_goto (tgt := 84) fR_isBefore_71 (by decide) ?_
        exact e_zret fR_isBefore_84 rfl rfl V
      · have V := V.2 z
        refine e_iconst (v := 1) fR_isBefore_66 (by decide) ?_
        refine e_goto (tgt := 84) fR_isBefore_67 (by decide) ?_
        exact e_zret fR_isBefore_84 rfl rfl V
  · have V := V.2 z
    refine e_aload_n fR_isBefore_15 rfl 0 rfl ?_
    obtain ⟨v13, gv13, V⟩ := V
    refine e_get fR_isBefore_16 kR_16 gv13 ?_
    refine e_iload_n fR_isBefore_19 rfl 1 rfl ?_
    obtain ⟨v14, g0, gv14, V⟩ := V
    refine e_iald fR_isBefore_20 g0 gv14 ?_
    refine e_aload_n fR_isBefore_21 rfl 0 rfl ?_
    obtain ⟨v15, gv15, V⟩ := V
    refine e_get fR_isBefore_22 kR_16 gv15 ?_
    refine e_iload_n fR_isBefore_25 rfl 2 rfl ?_
    obtain ⟨v16, g0, gv16, V⟩ := V
    refine e_iald fR_isBefore_26 g0 gv16 ?_
    refine e_icmp_ge (tgt := 34) fR_isBefore_27 (by decide) (fun z => ?_) (fun z => ?_)
    · have V := V.1 z
      refine e_iconst (v := 0) fR_isBefore_34 (by decide) ?_
      exact e_zret fR_isBefore_35 rfl rfl V
    · have V := V.2 z
      refine e_iconst (v := 1) fR_isBefore_30 (by decide) ?_
      refine e_goto (tgt := 35) fR_isBefore_31 (by decide) ?_
      exact e_zret fR_isBefore_35 rfl rfl V
set_option maxRecDepth 20000 in
theorem vR_shortOf {l : Launch} {G : ev_G} {h : ev_AH} {P : ev_Post} {p0 : Nat} {p1 : Int32} (V : ∃ v1 : Nat, ev_f h p0 4 21 = some (.ref v1) ∧ ∃ v2 : Int32, ¬ p1 < 0 ∧ ev_f h v1 101 (Int32.toNatClampNeg p1) = some (.int v2) ∧ ((v2 = 0 → P (.inl (some (.int 0))) h) ∧ (¬ v2 = 0 → ∃ v3 : Nat, ev_f h p0 4 17 = some (.ref v3) ∧ ∃ v4 : Int32, ¬ p1 < 0 ∧ ev_f h v3 100 (Int32.toNatClampNeg p1) = some (.int v4) ∧ ∃ v5 : Nat, ev_f h p0 4 20 = some (.ref v5) ∧ ∃ v6 : Int32, ¬ p1 < 0 ∧ ev_f h v5 100 (Int32.toNatClampNeg p1) = some (.int v6) ∧ P (.inl (some (.int (v4 - v6)))) h))) : Mt l G M_R_shortOf [.ref p0, .int p1] h P := by
  refine Mt.of rfl rfl (Nat.le_of_ble_eq_true rfl) ?_
  show Ev l G M_R_shortOf 0 [(0, .ref p0), (1, .int p1)] [] h 0 0 (ev_fin G M_R_shortOf P)
  refine e_aload_n fR_shortOf_0 rfl 0 rfl ?_
  obtain ⟨v1, gv1, V⟩ := V
  refine e_get fR_shortOf_1 kR_64 gv1 ?_
  refine e_iload_n fR_shortOf_4 rfl 1 rfl ?_
  obtain ⟨v2, g0, gv2, V⟩ := V
  refine e_zald fR_shortOf_5 g0 gv2 ?_
  refine e_if_eq (tgt := 25) fR_shortOf_6 (by decide) (fun z => ?_) (fun z => ?_)
  · have V := V.1 z
    refine e_iconst (v := 0) fR_shortOf_25 (by decide) ?_
    exact e_iret fR_shortOf_26 rfl V
  · have V := V.2 z
    refine e_aload_n fR_shortOf_9 rfl 0 rfl ?_
    obtain ⟨v3, gv3, V⟩ := V
    refine e_get fR_shortOf_10 kR_52 gv3 ?_
    refine e_iload_n fR_shortOf_13 rfl 1 rfl ?_
    obtain ⟨v4, g0, gv4, V⟩ := V
    refine e_iald fR_shortOf_14 g0 gv4 ?_
    refine e_aload_n fR_shortOf_15 rfl 0 rfl ?_
    obtain ⟨v5, gv5, V⟩ := V
    refine e_get fR_shortOf_16 kR_61 gv5 ?_
    refine e_iload_n fR_shortOf_19 rfl 1 rfl ?_
    obtain ⟨v6, g0, gv6, V⟩ := V
    refine e_iald fR_shortOf_20 g0 gv6 ?_
    refine e_isub fR_shortOf_21 ?_
    refine e_goto (tgt := 26) fR_shortOf_22 (by decide) ?_
    exact e_iret fR_shortOf_26 rfl V
