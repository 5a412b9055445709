/-! WALKS: the helpers of helpers -/
set_option maxRecDepth 20000 in
theorem vO_isWaiting {l : Launch} {G : ev_G} {h : ev_AH} {P : ev_Post} {p0 : Nat} (V : ∃ v1 : Int32, ev_f h p0 1 6 = some (.int v1) ∧ ((v1 = 0 → ∃ v3 : Int32, ev_f h p0 1 7 = some (.int v3) ∧ (∃ fs : List Value, h p0 = some (1, fs)) ∧ ((¬ (ev_b (¬ v3 = 0)) = 0 → P (.inl (some (.int 0))) h) ∧ ((ev_b (¬ v3 = 0)) = 0 → P (.inl (some (.int 1))) h))) ∧ (¬ v1 = 0 → ∃ v6 : Int32, ev_f h p0 1 6 = some (.int v6) ∧ ((¬ v6 = 1 → P (.inl (some (.int 0))) h) ∧ (v6 = 1 → ∃ v8 : Int32, ev_f h p0 1 7 = some (.int v8) ∧ (∃ fs : List Value, h p0 = some (1, fs)) ∧ ((¬ (ev_b (¬ v8 = 0)) = 0 → P (.inl (some (.int 0))) h) ∧ ((ev_b (¬ v8 = 0)) = 0 → P (.inl (some (.int 1))) h))))))) : Mt l G M_O_isWaiting [.ref p0] h P := by
  refine Mt.of rfl rfl (Nat.le_of_ble_eq_true rfl) ?_
  show Ev l G M_O_isWaiting 0 [(0, .ref p0)] [] h 0 0 (ev_fin G M_O_isWaiting P)
  refine e_aload_n fO_isWaiting_0 rfl 0 rfl ?_
  obtain ⟨v1, gv1, V⟩ := V
  refine e_get fO_isWaiting_1 kO_34 gv1 ?_
  refine e_if_eq (tgt := 15) fO_isWaiting_4 (by decide) (fun z => ?_) (fun z => ?_)
  · have V := V.1 z
    refine e_aload_n fO_isWaiting_15 rfl 0 rfl ?_
    obtain ⟨v3, gv3, V⟩ := V
    obtain ⟨gc, V⟩ := V
    refine e_callVi (uc' := 0) (us' := 0) (st := []) fO_isWaiting_16 wO_isWaiting_16 rfl rfl gc (sp_O_isBlocked gv3) (Nat.le_of_ble_eq_true rfl) (by decide) (by decide) (fun r5 h4 ga => ?_) (fun E h4 gx => False.elim gx)
    obtain ⟨rfl, ge⟩ := ga
    replace ge := ge.symm
    subst ge
    refine e_if_ne (tgt := 26) fO_isWaiting_19 (by decide) (fun z => ?_) (fun z => ?_)
    · have V := V.1 z
      refine e_iconst (v := 0) fO_isWaiting_26 (by decide) ?_
      exact e_zret fO_isWaiting_27 rfl rfl V
    · have V := V.2 z
      refine e_iconst (v := 1) fO_isWaiting_22 (by decide) ?_
      refine e_goto (tgt := 27) fO_isWaiting_23 (by decide) ?_
      exact e_zret fO_isWaiting_27 rfl rfl V
  · have V := V.2 z
    refine e_aload_n fO_isWaiting_7 rfl 0 rfl ?_
    obtain ⟨v6, gv6, V⟩ := V
    refine e_get fO_isWaiting_8 kO_34 gv6 ?_
    refine e_iconst (v := 1) fO_isWaiting_11 (by decide) ?_
    refine e_icmp_ne (tgt := 26) fO_isWaiting_12 (by decide) (fun z => ?_) (fun z => ?_)
    · have V := V.1 z
      refine e_iconst (v := 0) fO_isWaiting_26 (by decide) ?_
      exact e_zret fO_isWaiting_27 rfl rfl V
    · have V := V.2 z
      refine e_aload_n fO_isWaiting_15 rfl 0 rfl ?_
      obtain ⟨v8, gv8, V⟩ := V
      obtain ⟨gc, V⟩ := V
      refine e_callVi (uc' := 0) (us' := 0) (st := []) fO_isWaiting_16 wO_isWaiting_16 rfl rfl gc (sp_O_isBlocked gv8) (Nat.le_of_ble_eq_true rfl) (by decide) (by decide) (fun r10 h9 ga => ?_) (fun E h9 gx => False.elim gx)
      obtain ⟨rfl, ge⟩ := ga
      replace ge := ge.symm
      subst ge
      refine e_if_ne (tgt := 26) fO_isWaiting_19 (by decide) (fun z => ?_) (fun z => ?_)
      · have V := V.1 z
        refine e_iconst (v := 0) fO_isWaiting_26 (by decide) ?_
        exact e_zret fO_isWaiting_27 rfl rfl V
      · have V := V.2 z
        refine e_iconst (v := 1) fO_isWaiting_22 (by decide) ?_
        refine e_goto (tgt := 27) fO_isWaiting_23 (by decide) ?_
        exact e_zret fO_isWaiting_27 rfl rfl V
set_option maxRecDepth 20000 in
theorem vL_isReady {l : Launch} {G : ev_G} {h : ev_AH} {P : ev_Post} {p0 : Nat} (V : ∃ v1 : Int32, ev_f h p0 2 5 = some (.int v1) ∧ ∃ v2 : Int32, ev_f h p0 2 3 = some (.int v2) ∧ ((v1 = v2 → P (.inl (some (.int 1))) h) ∧ (¬ v1 = v2 → ∃ v4 : Int32, ev_f h p0 2 4 = some (.int v4) ∧ (∃ fs : List Value, h p0 = some (2, fs)) ∧ (((ev_b (¬ (v4 &&& 1) = 0)) = 0 → ∃ v8 : Int32, ev_f h p0 2 4 = some (.int v8) ∧ (∃ fs : List Value, h p0 = some (2, fs)) ∧ (((ev_b (¬ (v8 &&& 4) = 0)) = 0 → P (.inl (some (.int 0))) h) ∧ (¬ (ev_b (¬ (v8 &&& 4) = 0)) = 0 → P (.inl (some (.int 1))) h))) ∧ (¬ (ev_b (¬ (v4 &&& 1) = 0)) = 0 → ∃ v11 : Int32, ev_f h p0 2 5 = some (.int v11) ∧ ((0 < v11 → P (.inl (some (.int 1))) h) ∧ (¬ 0 < v11 → ∃ v13 : Int32, ev_f h p0 2 4 = some (.int v13) ∧ (∃ fs : List Value, h p0 = some (2, fs)) ∧ (((ev_b (¬ (v13 &&& 4) = 0)) = 0 → P (.inl (some (.int 0))) h) ∧ (¬ (ev_b (¬ (v13 &&& 4) = 0)) = 0 → P (.inl (some (.int 1))) h))))))))) : Mt l G M_L_isReady [.ref p0] h P := by
  refine Mt.of rfl rfl (Nat.le_of_ble_eq_true rfl) ?_
  show Ev l G M_L_isReady 0 [(0, .ref p0)] [] h 0 0 (ev_fin G M_L_isReady P)
  refine e_aload_n fL_isReady_0 rfl 0 rfl ?_
  obtain ⟨v1, gv1, V⟩ := V
  refine e_get fL_isReady_1 kL_28 gv1 ?_
  refine e_aload_n fL_isReady_4 rfl 0 rfl ?_
  obtain ⟨v2, gv2, V⟩ := V
  refine e_get fL_isReady_5 kL_22 gv2 ?_
  refine e_icmp_eq (tgt := 34) fL_isReady_8 (by decide) (fun z => ?_) (fun z => ?_)
  · have V := V.1 z
    refine e_iconst (v := 1) fL_isReady_34 (by decide) ?_
    refine e_goto (tgt := 39) fL_isReady_35 (by decide) ?_
    exact e_zret fL_isReady_39 rfl rfl V
  · have V := V.2 z
    refine e_aload_n fL_isReady_11 rfl 0 rfl ?_
    refine e_iconst (v := 1) fL_isReady_12 (by decide) ?_
    obtain ⟨v4, gv4, V⟩ := V
    obtain ⟨gc, V⟩ := V
    refine e_callVi (uc' := 0) (us' := 0) (st := []) fL_isReady_13 wL_isReady_13 rfl rfl gc (sp_L_hasRule gv4) (Nat.le_of_ble_eq_true rfl) (by decide) (by decide) (fun r6 h5 ga => ?_) (fun E h5 gx => False.elim gx)
    obtain ⟨rfl, ge⟩ := ga
    replace ge := ge.symm
    subst ge
    refine e_if_eq (tgt := 26) fL_isReady_16 (by decide) (fun z => ?_) (fun z => ?_)
    · have V := V.1 z
      refine e_aload_n fL_isReady_26 rfl 0 rfl ?_
      refine e_iconst (v := 4) fL_isReady_27 (by decide) ?_
      obtain ⟨v8, gv8, V⟩ := V
      obtain ⟨gc, V⟩ := V
      refine e_callVi (uc' := 0) (us' := 0) (st := []) fL_isReady_28 wL_isReady_28 rfl rfl gc (sp_L_hasRule gv8) (Nat.le_of_ble_eq_true rfl) (by decide) (by decide) (fun r10 h9 ga => ?_) (fun E h9 gx => False.elim gx)
      obtain ⟨rfl, ge⟩ := ga
      replace ge := ge.symm
      subst ge
      refine e_if_eq (tgt := 38) fL_isReady_31 (by decide) (fun z => ?_) (fun z => ?_)
      · have V := V.1 z
        refine e_iconst (v := 0) fL_isReady_38 (by decide) ?_
        exact e_zret fL_isReady_39 rfl rfl V
      · have V := V.2 z
        refine e_iconst (v := 1) fL_isReady_34 (by decide) ?_
        refine e_goto (tgt := 39) fL_isReady_35 (by decide) ?_
        exact e_zret fL_isReady_39 rfl rfl V
    · have V := V.2 z
      refine e_aload_n fL_isReady_19 rfl 0 rfl ?_
      obtain ⟨v11, gv11, V⟩ := V
      refine e_get fL_isReady_20 kL_28 gv11 ?_
      refine e_if_gt (tgt := 34) fL_isReady_23 (by decide) (fun z => ?_) (fun z => ?_)
      · have V := V.1 z
        refine e_iconst (v := 1) fL_isReady_34 (by decide) ?_
        refine e_goto (tgt := 39) fL_isReady_35 (by decide) ?_
        exact e_zret fL_isReady_39 rfl rfl V
      · have V := V.2 z
        refine e_aload_n fL_isReady_26 rfl 0 rfl ?_
        refine e_iconst (v := 4) fL_isReady_27 (by decide) ?_
        obtain ⟨v13, gv13, V⟩ := V
        obtain ⟨gc, V⟩ := V
        refine e_callVi (uc' := 0) (us' := 0) (st := []) fL_isReady_28 wL_isReady_28 rfl rfl gc (sp_L_hasRule gv13) (Nat.le_of_ble_eq_true rfl) (by decide) (by decide) (fun r15 h14 ga => ?_) (fun E h14 gx => False.elim gx)
        obtain ⟨rfl, ge⟩ := ga
        replace ge := ge.symm
        subst ge
        refine e_if_eq (tgt := 38) fL_isReady_31 (by decide) (fun z => ?_) (fun z => ?_)
        · have V := V.1 z
          refine e_iconst (v := 0) fL_isReady_38 (by decide) ?_
          exact e_zret fL_isReady_39 rfl rfl V
        · have V := V.2 z
          refine e_iconst (v := 1) fL_isReady_34 (by decide) ?_
          refine e_goto (tgt := 39) fL_isReady_35 (by decide) ?_
          exact e_zret fL_isReady_39 rfl rfl V
set_option maxRecDepth 20000 in
theorem vL_awaitsBackorder {l : Launch} {G : ev_G} {h : ev_AH} {P : ev_Post} {p0 : Nat} (V : ∃ v1 : Int32, ev_f h p0 2 9 = some (.int v1) ∧ ((v1 = 0 → P (.inl (some (.int 0))) h) ∧ (¬ v1 = 0 → ∃ v3 : Int32, ev_f h p0 2 4 = some (.int v3) ∧ (∃ fs : List Value, h p0 = some (2, fs)) ∧ (((ev_b (¬ (v3 &&& 4) = 0)) = 0 → P (.inl (some (.int 0))) h) ∧ (¬ (ev_b (¬ (v3 &&& 4) = 0)) = 0 → ∃ v7 : Int32, ev_f h p0 2 3 = some (.int v7) ∧ ∃ v8 : Int32, ev_f h p0 2 7 = some (.int v8) ∧ (∃ fs : List Value, h p0 = some (2, fs)) ∧ (((v7 - v8) ≤ 0 → P (.inl (some (.int 0))) h) ∧ (¬ (v7 - v8) ≤ 0 → ∃ v11 : Int32, ev_f h p0 2 10 = some (.int v11) ∧ ((¬ v11 = 0 → P (.inl (some (.int 0))) h) ∧ (v11 = 0 → P (.inl (some (.int 1))) h))))))))) : Mt l G M_L_awaitsBackorder [.ref p0] h P := by
  refine Mt.of rfl rfl (Nat.le_of_ble_eq_true rfl) ?_
  show Ev l G M_L_awaitsBackorder 0 [(0, .ref p0)] [] h 0 0 (ev_fin G M_L_awaitsBackorder P)
  refine e_aload_n fL_awaitsBackorder_0 rfl 0 rfl ?_
  obtain ⟨v1, gv1, V⟩ := V
  refine e_get fL_awaitsBackorder_1 kL_40 gv1 ?_
  refine e_if_eq (tgt := 33) fL_awaitsBackorder_4 (by decide) (fun z => ?_) (fun z => ?_)
  · have V := V.1 z
    refine e_iconst (v := 0) fL_awaitsBackorder_33 (by decide) ?_
    exact e_zret fL_awaitsBackorder_34 rfl rfl V
  · have V := V.2 z
    refine e_aload_n fL_awaitsBackorder_7 rfl 0 rfl ?_
    refine e_iconst (v := 4) fL_awaitsBackorder_8 (by decide) ?_
    obtain ⟨v3, gv3, V⟩ := V
    obtain ⟨gc, V⟩ := V
    refine e_callVi (uc' := 0) (us' := 0) (st := []) fL_awaitsBackorder_9 wL_awaitsBackorder_9 rfl rfl gc (sp_L_hasRule gv3) (Nat.le_of_ble_eq_true rfl) (by decide) (by decide) (fun r5 h4 ga => ?_) (fun E h4 gx => False.elim gx)
    obtain ⟨rfl, ge⟩ := ga
    replace ge := ge.symm
    subst ge
    refine e_if_eq (tgt := 33) fL_awaitsBackorder_12 (by decide) (fun z => ?_) (fun z => ?_)
    · have V := V.1 z
      refine e_iconst (v := 0) fL_awaitsBackorder_33 (by decide) ?_
      exact e_zret fL_awaitsBackorder_34 rfl rfl V
    · have V := V.2 z
      refine e_aload_n fL_awaitsBackorder_15 rfl 0 rfl ?_
      obtain ⟨v7, gv7, V⟩ := V
      obtain ⟨v8, gv8, V⟩ := V
      obtain ⟨gc, V⟩ := V
      refine e_callVi (uc' := 0) (us' := 0) (st := []) fL_awaitsBackorder_16 wL_awaitsBackorder_16 rfl rfl gc (sp_L_missing gv7 gv8) (Nat.le_of_ble_eq_true rfl) (by decide) (by decide) (fun r10 h9 ga => ?_) (fun E h9 gx => False.elim gx)
      obtain ⟨rfl, ge⟩ := ga
      replace ge := ge.symm
      subst ge
      refine e_if_le (tgt := 33) fL_awaitsBackorder_19 (by decide) (fun z => ?_) (fun z => ?_)
      · have V := V.1 z
        refine e_iconst (v := 0) fL_awaitsBackorder_33 (by decide) ?_
        exact e_zret fL_awaitsBackorder_34 rfl rfl V
      · have V := V.2 z
        refine e_aload_n fL_awaitsBackorder_22 rfl 0 rfl ?_
        obtain ⟨v11, gv11, V⟩ := V
        refine e_get fL_awaitsBackorder_23 kL_44 gv11 ?_
        refine e_if_ne (tgt := 33) fL_awaitsBackorder_26 (by decide) (fun z => ?_) (fun z => ?_)
        · have V := V.1 z
          refine e_iconst (v := 0) fL_awaitsBackorder_33 (by decide) ?_
          exact e_zret fL_awaitsBackorder_34 rfl rfl V
        · have V := V.2 z
          refine e_iconst (v := 1) fL_awaitsBackorder_29 (by decide) ?_
          refine e_goto (tgt := 34) fL_awaitsBackorder_30 (by decide) ?_
          exact e_zret fL_awaitsBackorder_34 rfl rfl V
