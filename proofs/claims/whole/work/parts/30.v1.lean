/-! WALKS: the helpers -/
set_option maxRecDepth 20000 in
theorem vX_requireRange {l : Launch} {G : ev_G} {h : ev_AH} {P : ev_Post} {p0 : Int32} {p1 : Int32} {p2 : Int32} (V : ((p0 < p1 → P (.inr "java/lang/IllegalArgumentException") h) ∧ (¬ p0 < p1 → ((p0 ≤ p2 → P (.inl none) h) ∧ (¬ p0 ≤ p2 → P (.inr "java/lang/IllegalArgumentException") h))))) : Mt l G M_X_requireRange [.int p0, .int p1, .int p2] h P := by
  refine Mt.of rfl rfl (Nat.le_of_ble_eq_true rfl) ?_
  show Ev l G M_X_requireRange 0 [(0, .int p0), (1, .int p1), (2, .int p2)] [] h 1 6 (ev_fin G M_X_requireRange P)
  refine e_iload_n fX_requireRange_0 rfl 0 rfl ?_
  refine e_iload_n fX_requireRange_1 rfl 1 rfl ?_
  refine e_icmp_lt (tgt := 10) fX_requireRange_2 (by decide) (fun z => ?_) (fun z => ?_)
  · have V := V.1 z
    exact e_throwS fX_requireRange_10 fX_requireRange_13 fX_requireRange_14 fX_requireRange_16 fX_requireRange_19 tX_requireRange_10 (by decide) (by decide) V
  · have V := V.2 z
    refine e_iload_n fX_requireRange_5 rfl 0 rfl ?_
    refine e_iload_n fX_requireRange_6 rfl 2 rfl ?_
    refine e_icmp_le (tgt := 20) fX_requireRange_7 (by decide) (fun z => ?_) (fun z => ?_)
    · have V := V.1 z
      exact e_vret fX_requireRange_20 rfl V
    · have V := V.2 z
      exact e_throwS fX_requireRange_10 fX_requireRange_13 fX_requireRange_14 fX_requireRange_16 fX_requireRange_19 tX_requireRange_10 (by decide) (by decide) V
set_option maxRecDepth 20000 in
theorem vX_requireNotNegative {l : Launch} {G : ev_G} {h : ev_AH} {P : ev_Post} {p0 : Int32} (V : ((0 ≤ p0 → P (.inl none) h) ∧ (¬ 0 ≤ p0 → P (.inr "java/lang/IllegalArgumentException") h))) : Mt l G M_X_requireNotNegative [.int p0] h P := by
  refine Mt.of rfl rfl (Nat.le_of_ble_eq_true rfl) ?_
  show Ev l G M_X_requireNotNegative 0 [(0, .int p0)] [] h 1 6 (ev_fin G M_X_requireNotNegative P)
  refine e_iload_n fX_requireNotNegative_0 rfl 0 rfl ?_
  refine e_if_ge (tgt := 14) fX_requireNotNegative_1 (by decide) (fun z => ?_) (fun z => ?_)
  · have V := V.1 z
    exact e_vret fX_requireNotNegative_14 rfl V
  · have V := V.2 z
    exact e_throwS fX_requireNotNegative_4 fX_requireNotNegative_7 fX_requireNotNegative_8 fX_requireNotNegative_10 fX_requireNotNegative_13 tX_requireNotNegative_4 (by decide) (by decide) V
set_option maxRecDepth 20000 in
theorem vX_requireState {l : Launch} {G : ev_G} {h : ev_AH} {P : ev_Post} {p0 : Int32} (V : ((¬ p0 = 0 → P (.inl none) h) ∧ (p0 = 0 → P (.inr "java/lang/IllegalStateException") h))) : Mt l G M_X_requireState [.int p0] h P := by
  refine Mt.of rfl rfl (Nat.le_of_ble_eq_true rfl) ?_
  show Ev l G M_X_requireState 0 [(0, .int p0)] [] h 1 6 (ev_fin G M_X_requireState P)
  refine e_iload_n fX_requireState_0 rfl 0 rfl ?_
  refine e_if_ne (tgt := 14) fX_requireState_1 (by decide) (fun z => ?_) (fun z => ?_)
  · have V := V.1 z
    exact e_vret fX_requireState_14 rfl V
  · have V := V.2 z
    exact e_throwS fX_requireState_4 fX_requireState_7 fX_requireState_8 fX_requireState_10 fX_requireState_13 tX_requireState_4 (by decide) (by decide) V
set_option maxRecDepth 20000 in
theorem vX_requireRoom {l : Launch} {G : ev_G} {h : ev_AH} {P : ev_Post} {p0 : Int32} (V : ((¬ p0 = 0 → P (.inl none) h) ∧ (p0 = 0 → P (.inr "java/lang/UnsupportedOperationException") h))) : Mt l G M_X_requireRoom [.int p0] h P := by
  refine Mt.of rfl rfl (Nat.le_of_ble_eq_true rfl) ?_
  show Ev l G M_X_requireRoom 0 [(0, .int p0)] [] h 1 6 (ev_fin G M_X_requireRoom P)
  refine e_iload_n fX_requireRoom_0 rfl 0 rfl ?_
  refine e_if_ne (tgt := 14) fX_requireRoom_1 (by decide) (fun z => ?_) (fun z => ?_)
  · have V := V.1 z
    exact e_vret fX_requireRoom_14 rfl V
  · have V := V.2 z
    exact e_throwS fX_requireRoom_4 fX_requireRoom_7 fX_requireRoom_8 fX_requireRoom_10 fX_requireRoom_13 tX_requireRoom_4 (by decide) (by decide) V
set_option maxRecDepth 20000 in
theorem vR_in {l : Launch} {G : ev_G} {h : ev_AH} {P : ev_Post} {p0 : Int32} {p1 : Int32} {p2 : Int32} (V : ((p0 < p1 → P (.inl (some (.int 0))) h) ∧ (¬ p0 < p1 → ((p2 < p0 → P (.inl (some (.int 0))) h) ∧ (¬ p2 < p0 → P (.inl (some (.int 1))) h))))) : Mt l G M_R_in [.int p0, .int p1, .int p2] h P := by
  refine Mt.of rfl rfl (Nat.le_of_ble_eq_true rfl) ?_
  show Ev l G M_R_in 0 [(0, .int p0), (1, .int p1), (2, .int p2)] [] h 0 0 (ev_fin G M_R_in P)
  refine e_iload_n fR_in_0 rfl 0 rfl ?_
  refine e_iload_n fR_in_1 rfl 1 rfl ?_
  refine e_icmp_lt (tgt := 14) fR_in_2 (by decide) (fun z => ?_) (fun z => ?_)
  · have V := V.1 z
    refine e_iconst (v := 0) fR_in_14 (by decide) ?_
    exact e_zret fR_in_15 rfl rfl V
  · have V := V.2 z
    refine e_iload_n fR_in_5 rfl 0 rfl ?_
    refine e_iload_n fR_in_6 rfl 2 rfl ?_
    refine e_icmp_gt (tgt := 14) fR_in_7 (by decide) (fun z => ?_) (fun z => ?_)
    · have V := V.1 z
      refine e_iconst (v := 0) fR_in_14 (by decide) ?_
      exact e_zret fR_in_15 rfl rfl V
    · have V := V.2 z
      refine e_iconst (v := 1) fR_in_10 (by decide) ?_
      refine e_goto (tgt := 15) fR_in_11 (by decide) ?_
      exact e_zret fR_in_15 rfl rfl V
set_option maxRecDepth 20000 in
theorem vO_isBlocked {l : Launch} {G : ev_G} {h : ev_AH} {P : ev_Post} {p0 : Nat} (V : ∃ v1 : Int32, ev_f h p0 1 7 = some (.int v1) ∧ ((v1 = 0 → P (.inl (some (.int 0))) h) ∧ (¬ v1 = 0 → P (.inl (some (.int 1))) h))) : Mt l G M_O_isBlocked [.ref p0] h P := by
  refine Mt.of rfl rfl (Nat.le_of_ble_eq_true rfl) ?_
  show Ev l G M_O_isBlocked 0 [(0, .ref p0)] [] h 0 0 (ev_fin G M_O_isBlocked P)
  refine e_aload_n fO_isBlocked_0 rfl 0 rfl ?_
  obtain ⟨v1, gv1, V⟩ := V
  refine e_get fO_isBlocked_1 kO_37 gv1 ?_
  refine e_if_eq (tgt := 11) fO_isBlocked_4 (by decide) (fun z => ?_) (fun z => ?_)
  · have V := V.1 z
    refine e_iconst (v := 0) fO_isBlocked_11 (by decide) ?_
    exact e_zret fO_isBlocked_12 rfl rfl V
  · have V := V.2 z
    refine e_iconst (v := 1) fO_isBlocked_7 (by decide) ?_
    refine e_goto (tgt := 12) fO_isBlocked_8 (by decide) ?_
    exact e_zret fO_isBlocked_12 rfl rfl V
set_option maxRecDepth 20000 in
theorem vL_hasRule {l : Launch} {G : ev_G} {h : ev_AH} {P : ev_Post} {p0 : Nat} {p1 : Int32} (V : ∃ v1 : Int32, ev_f h p0 2 4 = some (.int v1) ∧ (((v1 &&& p1) = 0 → P (.inl (some (.int 0))) h) ∧ (¬ (v1 &&& p1) = 0 → P (.inl (some (.int 1))) h))) : Mt l G M_L_hasRule [.ref p0, .int p1] h P := by
  refine Mt.of rfl rfl (Nat.le_of_ble_eq_true rfl) ?_
  show Ev l G M_L_hasRule 0 [(0, .ref p0), (1, .int p1)] [] h 0 0 (ev_fin G M_L_hasRule P)
  refine e_aload_n fL_hasRule_0 rfl 0 rfl ?_
  obtain ⟨v1, gv1, V⟩ := V
  refine e_get fL_hasRule_1 kL_25 gv1 ?_
  refine e_iload_n fL_hasRule_4 rfl 1 rfl ?_
  refine e_iand fL_hasRule_5 ?_
  refine e_if_eq (tgt := 13) fL_hasRule_6 (by decide) (fun z => ?_) (fun z => ?_)
  · have V := V.1 z
    refine e_iconst (v := 0) fL_hasRule_13 (by decide) ?_
    exact e_zret fL_hasRule_14 rfl rfl V
  · have V := V.2 z
    refine e_iconst (v := 1) fL_hasRule_9 (by decide) ?_
    refine e_goto (tgt := 14) fL_hasRule_10 (by decide) ?_
    exact e_zret fL_hasRule_14 rfl rfl V
set_option maxRecDepth 20000 in
theorem vL_missing {l : Launch} {G : ev_G} {h : ev_AH} {P : ev_Post} {p0 : Nat} (V : ∃ v1 : Int32, ev_f h p0 2 3 = some (.int v1) ∧ ∃ v2 : Int32, ev_f h p0 2 7 = some (.int v2) ∧ P (.inl (some (.int (v1 - v2)))) h) : Mt l G M_L_missing [.ref p0] h P := by
  refine Mt.of rfl rfl (Nat.le_of_ble_eq_true rfl) ?_
  show Ev l G M_L_missing 0 [(0, .ref p0)] [] h 0 0 (ev_fin G M_L_missing P)
  refine e_aload_n fL_missing_0 rfl 0 rfl ?_
  obtain ⟨v1, gv1, V⟩ := V
  refine e_get fL_missing_1 kL_22 gv1 ?_
  refine e_aload_n fL_missing_4 rfl 0 rfl ?_
  obtain ⟨v2, gv2, V⟩ := V
  refine e_get fL_missing_5 kL_34 gv2 ?_
  refine e_isub fL_missing_8 ?_
  exact e_iret fL_missing_9 rfl V
set_option maxRecDepth 20000 in
theorem vX_phaseLetsChange {l : Launch} {G : ev_G} {h : ev_AH} {P : ev_Post} {p0 : Int32} {p1 : Int32} (V : ((p0 = 0 → P (.inl (some (.int 1))) h) ∧ (¬ p0 = 0 → ((¬ p0 = 1 → P (.inl (some (.int 0))) h) ∧ (p0 = 1 → ((¬ p1 = 2 → P (.inl (some (.int 0))) h) ∧ (p1 = 2 → P (.inl (some (.int 1))) h))))))) : Mt l G M_X_phaseLetsChange [.int p0, .int p1] h P := by
  refine Mt.of rfl rfl (Nat.le_of_ble_eq_true rfl) ?_
  show Ev l G M_X_phaseLetsChange 0 [(0, .int p0), (1, .int p1)] [] h 0 0 (ev_fin G M_X_phaseLetsChange P)
  refine e_iload_n fX_phaseLetsChange_0 rfl 0 rfl ?_
  refine e_if_eq (tgt := 14) fX_phaseLetsChange_1 (by decide) (fun z => ?_) (fun z => ?_)
  · have V := V.1 z
    refine e_iconst (v := 1) fX_phaseLetsChange_14 (by decide) ?_
    refine e_goto (tgt := 19) fX_phaseLetsChange_15 (by decide) ?_
    exact e_zret fX_phaseLetsChange_19 rfl rfl V
  · have V := V.2 z
    refine e_iload_n fX_phaseLetsChange_4 rfl 0 rfl ?_
    refine e_iconst (v := 1) fX_phaseLetsChange_5 (by decide) ?_
    refine e_icmp_ne (tgt := 18) fX_phaseLetsChange_6 (by decide) (fun z => ?_) (fun z => ?_)
    · have V := V.1 z
      refine e_iconst (v := 0) fX_phaseLetsChange_18 (by decide) ?_
      exact e_zret fX_phaseLetsChange_19 rfl rfl V
    · have V := V.2 z
      refine e_iload_n fX_phaseLetsChange_9 rfl 1 rfl ?_
      refine e_iconst (v := 2) fX_phaseLetsChange_10 (by decide) ?_
      refine e_icmp_ne (tgt := 18) fX_phaseLetsChange_11 (by decide) (fun z => ?_) (fun z => ?_)
      · have V := V.1 z
        refine e_iconst (v := 0) fX_phaseLetsChange_18 (by decide) ?_
        exact e_zret fX_phaseLetsChange_19 rfl rfl V
      · have V := V.2 z
        refine e_iconst (v := 1) fX_phaseLetsChange_14 (by decide) ?_
        refine e_goto (tgt := 19) fX_phaseLetsChange_15 (by decide) ?_
        exact e_zret fX_phaseLetsChange_19 rfl rfl V
