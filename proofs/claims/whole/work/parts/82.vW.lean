/-! WALKS: the law's helpers -/
set_option maxRecDepth 20000 in
theorem vW_order {l : Launch} {G : ev_G} {h : ev_AH} {P : ev_Post} {p0 : Nat} {p1 : Int32} {p2 : Int32} {p3 : Int32} {p4 : Int32} {p5 : Nat} (V : (∃ fs : List Value, h p0 = some (0, fs)) ∧ ∃ (A : Int32 → ev_AH → Prop) (X : String → ev_AH → Prop), Mt l G M_X_order [.ref p0, .int p1, .int p2, .int p3, .int p4] h (ev_pi A X) ∧ (∀ (r2 : Int32) (h1 : ev_AH), A r2 h1 → ∃ w3 : Value, ¬ (0 : Int32) < 0 ∧ ev_f h1 p5 102 (Int32.toNatClampNeg 0) = some w3 ∧ ∀ h4 : ev_AH, h4 = ev_s h1 p5 (Int32.toNatClampNeg 0) (.long (Int32.toInt64 r2)) → P (.inl (some (.int 0))) h4) ∧ (∀ (E : String) (h9 : ev_AH), X E h9 → (E = "java/lang/IllegalArgumentException" ∧ P (.inl (some (.int 1))) h9) ∨ (E = "java/lang/UnsupportedOperationException" ∧ P (.inl (some (.int 2))) h9))) : Mt l G M_W_order [.ref p0, .int p1, .int p2, .int p3, .int p4, .ref p5] h P := by
  refine Mt.ofH rfl ⟨_, _, rfl⟩ (Nat.le_of_ble_eq_true rfl) ?_
  show Ev l G M_W_order 0 [(0, .ref p0), (1, .int p1), (2, .int p2), (3, .int p3), (4, .int p4), (5, .ref p5)] [] h 9 143 (ev_fin G M_W_order P)
  refine e_aload fW_order_0 5 rfl ?_
  refine e_iconst (v := 0) fW_order_2 (by decide) ?_
  refine e_aload_n fW_order_3 rfl 0 rfl ?_
  refine e_iload_n fW_order_4 rfl 1 rfl ?_
  refine e_iload_n fW_order_5 rfl 2 rfl ?_
  refine e_iload_n fW_order_6 rfl 3 rfl ?_
  refine e_iload fW_order_7 4 rfl ?_
  obtain ⟨gc, V⟩ := V
  obtain ⟨A, X, hm, V, VX⟩ := V
  refine e_callVi (uc' := 0) (us' := 0) (st := [.int 0, .ref p5]) fW_order_9 wW_order_9 rfl rfl gc hm (Nat.le_of_ble_eq_true rfl) (by decide) (by decide) (fun r2 h1 ga => ?_) (fun E h1 gx => ?_)
  · have V := V _ _ ga
    refine e_i2l fW_order_12 rfl ?_
    obtain ⟨w3, g0, gw3, V⟩ := V
    refine e_last fW_order_13 g0 gw3 (fun h4 eh4 => ?_)
    have V := V h4 eh4
    refine e_goto (tgt := 25) fW_order_14 (by decide) ?_
    refine e_iconst (v := 0) fW_order_25 (by decide) ?_
    exact e_iret fW_order_26 rfl V
  · rcases VX E _ gx with ⟨rfl, V⟩ | ⟨rfl, V⟩
    · refine e_catch [] (0, 14, 17, 13) [(0, 14, 21, 15)] rfl (fun z hz => by cases hz) (by decide) (by decide) hW_13 (by decide +kernel) (fun q => ?_)
      refine e_astore (ls' := [(6, .ref q), (0, .ref p0), (1, .int p1), (2, .int p2), (3, .int p3), (4, .int p4), (5, .ref p5)]) fW_order_17 (by decide) rfl ?_
      refine e_iconst (v := 1) fW_order_19 (by decide) ?_
      exact e_iret fW_order_20 rfl V
    · refine e_catch [(0, 14, 17, 13)] (0, 14, 21, 15) [] rfl (List.forall_mem_cons.mpr ⟨⟨by decide, "java/lang/IllegalArgumentException", hW_13, by decide +kernel⟩, (fun z hz => by cases hz)⟩) (by decide) (by decide) hW_15 (by decide +kernel) (fun q => ?_)
      refine e_astore (ls' := [(6, .ref q), (0, .ref p0), (1, .int p1), (2, .int p2), (3, .int p3), (4, .int p4), (5, .ref p5)]) fW_order_21 (by decide) rfl ?_
      refine e_iconst (v := 2) fW_order_23 (by decide) ?_
      exact e_iret fW_order_24 rfl V
set_option maxRecDepth 20000 in
theorem vW_line {l : Launch} {G : ev_G} {h : ev_AH} {P : ev_Post} {p0 : Nat} {p1 : Int32} {p2 : Int32} {p3 : Int32} {p4 : Int32} {p5 : Nat} (V : (∃ fs : List Value, h p0 = some (0, fs)) ∧ ∃ (A : Int32 → ev_AH → Prop) (X : String → ev_AH → Prop), Mt l G M_X_line [.ref p0, .int p1, .int p2, .int p3, .int p4] h (ev_pi A X) ∧ (∀ (r2 : Int32) (h1 : ev_AH), A r2 h1 → ∃ w3 : Value, ¬ (0 : Int32) < 0 ∧ ev_f h1 p5 102 (Int32.toNatClampNeg 0) = some w3 ∧ ∀ h4 : ev_AH, h4 = ev_s h1 p5 (Int32.toNatClampNeg 0) (.long (Int32.toInt64 r2)) → P (.inl (some (.int 0))) h4) ∧ (∀ (E : String) (h9 : ev_AH), X E h9 → (E = "java/util/NoSuchElementException" ∧ P (.inl (some (.int 1))) h9) ∨ (E = "java/lang/IllegalArgumentException" ∧ P (.inl (some (.int 2))) h9) ∨ (E = "java/lang/IllegalStateException" ∧ P (.inl (some (.int 3))) h9) ∨ (E = "java/lang/UnsupportedOperationException" ∧ P (.inl (some (.int 4))) h9))) : Mt l G M_W_line [.ref p0, .int p1, .int p2, .int p3, .int p4, .ref p5] h P := by
  refine Mt.ofH rfl ⟨_, _, rfl⟩ (Nat.le_of_ble_eq_true rfl) ?_
  show Ev l G M_W_line 0 [(0, .ref p0), (1, .int p1), (2, .int p2), (3, .int p3), (4, .int p4), (5, .ref p5)] [] h 12 253 (ev_fin G M_W_line P)
  refine e_aload fW_line_0 5 rfl ?_
  refine e_iconst (v := 0) fW_line_2 (by decide) ?_
  refine e_aload_n fW_line_3 rfl 0 rfl ?_
  refine e_iload_n fW_line_4 rfl 1 rfl ?_
  refine e_iload_n fW_line_5 rfl 2 rfl ?_
  refine e_iload_n fW_line_6 rfl 3 rfl ?_
  refine e_iload fW_line_7 4 rfl ?_
  obtain ⟨gc, V⟩ := V
  obtain ⟨A, X, hm, V, VX⟩ := V
  refine e_callVi (uc' := 0) (us' := 0) (st := [.int 0, .ref p5]) fW_line_9 wW_line_9 rfl rfl gc hm (Nat.le_of_ble_eq_true rfl) (by decide) (by decide) (fun r2 h1 ga => ?_) (fun E h1 gx => ?_)
  · have V := V _ _ ga
    refine e_i2l fW_line_12 rfl ?_
    obtain ⟨w3, g0, gw3, V⟩ := V
    refine e_last fW_line_13 g0 gw3 (fun h4 eh4 => ?_)
    have V := V h4 eh4
    refine e_goto (tgt := 33) fW_line_14 (by decide) ?_
    refine e_iconst (v := 0) fW_line_33 (by decide) ?_
    exact e_iret fW_line_34 rfl V
  · rcases VX E _ gx with ⟨rfl, V⟩ | ⟨rfl, V⟩ | ⟨rfl, V⟩ | ⟨rfl, V⟩
    · refine e_catch [] (0, 14, 17, 20) [(0, 14, 21, 13), (0, 14, 25, 22), (0, 14, 29, 15)] rfl (fun z hz => by cases hz) (by decide) (by decide) hW_20 (by decide +kernel) (fun q => ?_)
      refine e_astore (ls' := [(6, .ref q), (0, .ref p0), (1, .int p1), (2, .int p2), (3, .int p3), (4, .int p4), (5, .ref p5)]) fW_line_17 (by decide) rfl ?_
      refine e_iconst (v := 1) fW_line_19 (by decide) ?_
      exact e_iret fW_line_20 rfl V
    · refine e_catch [(0, 14, 17, 20)] (0, 14, 21, 13) [(0, 14, 25, 22), (0, 14, 29, 15)] rfl (List.forall_mem_cons.mpr ⟨⟨by decide, "java/util/NoSuchElementException", hW_20, by decide +kernel⟩, (fun z hz => by cases hz)⟩) (by decide) (by decide) hW_13 (by decide +kernel) (fun q => ?_)
      refine e_astore (ls' := [(6, .ref q), (0, .ref p0), (1, .int p1), (2, .int p2), (3, .int p3), (4, .int p4), (5, .ref p5)]) fW_line_21 (by decide) rfl ?_
      refine e_iconst (v := 2) fW_line_23 (by decide) ?_
      exact e_iret fW_line_24 rfl V
    · refine e_catch [(0, 14, 17, 20), (0, 14, 21, 13)] (0, 14, 25, 22) [(0, 14, 29, 15)] rfl (List.forall_mem_cons.mpr ⟨⟨by decide, "java/util/NoSuchElementException", hW_20, by decide +kernel⟩, (List.forall_mem_cons.mpr ⟨⟨by decide, "java/lang/IllegalArgumentException", hW_13, by decide +kernel⟩, (fun z hz => by cases hz)⟩)⟩) (by decide) (by decide) hW_22 (by decide +kernel) (fun q => ?_)
      refine e_astore (ls' := [(6, .ref q), (0, .ref p0), (1, .int p1), (2, .int p2), (3, .int p3), (4, .int p4), (5, .ref p5)]) fW_line_25 (by decide) rfl ?_
      refine e_iconst (v := 3) fW_line_27 (by decide) ?_
      exact e_iret fW_line_28 rfl V
    · refine e_catch [(0, 14, 17, 20), (0, 14, 21, 13), (0, 14, 25, 22)] (0, 14, 29, 15) [] rfl (List.forall_mem_cons.mpr ⟨⟨by decide, "java/util/NoSuchElementException", hW_20, by decide +kernel⟩, (List.forall_mem_cons.mpr ⟨⟨by decide, "java/lang/IllegalArgumentException", hW_13, by decide +kernel⟩, (List.forall_mem_cons.mpr ⟨⟨by decide, "java/lang/IllegalStateException", hW_22, by decide +kernel⟩, (fun z hz => by cases hz)⟩)⟩)⟩) (by decide) (by decide) hW_15 (by decide +kernel) (fun q => ?_)
      refine e_astore (ls' := [(6, .ref q), (0, .ref p0), (1, .int p1), (2, .int p2), (3, .int p3), (4, .int p4), (5, .ref p5)]) fW_line_29 (by decide) rfl ?_
      refine e_iconst (v := 4) fW_line_31 (by decide) ?_
      exact e_iret fW_line_32 rfl V
set_option maxRecDepth 20000 in
theorem vW_hold {l : Launch} {G : ev_G} {h : ev_AH} {P : ev_Post} {p0 : Nat} {p1 : Int32} {p2 : Int32} {p3 : Nat} (V : (∃ fs : List Value, h p0 = some (0, fs)) ∧ ∃ (A : Int32 → ev_AH → Prop) (X : String → ev_AH → Prop), Mt l G M_X_hold [.ref p0, .int p1, .int p2] h (ev_pi A X) ∧ (∀ (r2 : Int32) (h1 : ev_AH), A r2 h1 → ∃ w3 : Value, ¬ (0 : Int32) < 0 ∧ ev_f h1 p3 102 (Int32.toNatClampNeg 0) = some w3 ∧ ∀ h4 : ev_AH, h4 = ev_s h1 p3 (Int32.toNatClampNeg 0) (.long (Int32.toInt64 r2)) → P (.inl (some (.int 0))) h4) ∧ (∀ (E : String) (h9 : ev_AH), X E h9 → (E = "java/util/NoSuchElementException" ∧ P (.inl (some (.int 1))) h9) ∨ (E = "java/lang/IllegalArgumentException" ∧ P (.inl (some (.int 2))) h9) ∨ (E = "java/lang/IllegalStateException" ∧ P (.inl (some (.int 3))) h9))) : Mt l G M_W_hold [.ref p0, .int p1, .int p2, .ref p3] h P := by
  refine Mt.ofH rfl ⟨_, _, rfl⟩ (Nat.le_of_ble_eq_true rfl) ?_
  show Ev l G M_W_hold 0 [(0, .ref p0), (1, .int p1), (2, .int p2), (3, .ref p3)] [] h 5 30 (ev_fin G M_W_hold P)
  refine e_aload_n fW_hold_0 rfl 3 rfl ?_
  refine e_iconst (v := 0) fW_hold_1 (by decide) ?_
  refine e_aload_n fW_hold_2 rfl 0 rfl ?_
  refine e_iload_n fW_hold_3 rfl 1 rfl ?_
  refine e_iload_n fW_hold_4 rfl 2 rfl ?_
  obtain ⟨gc, V⟩ := V
  obtain ⟨A, X, hm, V, VX⟩ := V
  refine e_callVi (uc' := 0) (us' := 0) (st := [.int 0, .ref p3]) fW_hold_5 wW_hold_5 rfl rfl gc hm (Nat.le_of_ble_eq_true rfl) (by decide) (by decide) (fun r2 h1 ga => ?_) (fun E h1 gx => ?_)
  · have V := V _ _ ga
    refine e_i2l fW_hold_8 rfl ?_
    obtain ⟨w3, g0, gw3, V⟩ := V
    refine e_last fW_hold_9 g0 gw3 (fun h4 eh4 => ?_)
    have V := V h4 eh4
    refine e_goto (tgt := 25) fW_hold_10 (by decide) ?_
    refine e_iconst (v := 0) fW_hold_25 (by decide) ?_
    exact e_iret fW_hold_26 rfl V
  · rcases VX E _ gx with ⟨rfl, V⟩ | ⟨rfl, V⟩ | ⟨rfl, V⟩
    · refine e_catch [] (0, 10, 13, 20) [(0, 10, 17, 13), (0, 10, 21, 22)] rfl (fun z hz => by cases hz) (by decide) (by decide) hW_20 (by decide +kernel) (fun q => ?_)
      refine e_astore (ls' := [(4, .ref q), (0, .ref p0), (1, .int p1), (2, .int p2), (3, .ref p3)]) fW_hold_13 (by decide) rfl ?_
      refine e_iconst (v := 1) fW_hold_15 (by decide) ?_
      exact e_iret fW_hold_16 rfl V
    · refine e_catch [(0, 10, 13, 20)] (0, 10, 17, 13) [(0, 10, 21, 22)] rfl (List.forall_mem_cons.mpr ⟨⟨by decide, "java/util/NoSuchElementException", hW_20, by decide +kernel⟩, (fun z hz => by cases hz)⟩) (by decide) (by decide) hW_13 (by decide +kernel) (fun q => ?_)
      refine e_astore (ls' := [(4, .ref q), (0, .ref p0), (1, .int p1), (2, .int p2), (3, .ref p3)]) fW_hold_17 (by decide) rfl ?_
      refine e_iconst (v := 2) fW_hold_19 (by decide) ?_
      exact e_iret fW_hold_20 rfl V
    · refine e_catch [(0, 10, 13, 20), (0, 10, 17, 13)] (0, 10, 21, 22) [] rfl (List.forall_mem_cons.mpr ⟨⟨by decide, "java/util/NoSuchElementException", hW_20, by decide +kernel⟩, (List.forall_mem_cons.mpr ⟨⟨by decide, "java/lang/IllegalArgumentException", hW_13, by decide +kernel⟩, (fun z hz => by cases hz)⟩)⟩) (by decide) (by decide) hW_22 (by decide +kernel) (fun q => ?_)
      refine e_astore (ls' := [(4, .ref q), (0, .ref p0), (1, .int p1), (2, .int p2), (3, .ref p3)]) fW_hold_21 (by decide) rfl ?_
      refine e_iconst (v := 3) fW_hold_23 (by decide) ?_
      exact e_iret fW_hold_24 rfl V
set_option maxRecDepth 20000 in
theorem vW_pick {l : Launch} {G : ev_G} {h : ev_AH} {P : ev_Post} {p0 : Nat} {p1 : Int32} {p2 : Int32} {p3 : Nat} (V : (∃ fs : List Value, h p0 = some (0, fs)) ∧ ∃ (A : Int32 → ev_AH → Prop) (X : String → ev_AH → Prop), Mt l G M_X_pick [.ref p0, .int p1, .int p2] h (ev_pi A X) ∧ (∀ (r2 : Int32) (h1 : ev_AH), A r2 h1 → ∃ w3 : Value, ¬ (0 : Int32) < 0 ∧ ev_f h1 p3 102 (Int32.toNatClampNeg 0) = some w3 ∧ ∀ h4 : ev_AH, h4 = ev_s h1 p3 (Int32.toNatClampNeg 0) (.long (Int32.toInt64 r2)) → P (.inl (some (.int 0))) h4) ∧ (∀ (E : String) (h9 : ev_AH), X E h9 → (E = "java/util/NoSuchElementException" ∧ P (.inl (some (.int 1))) h9) ∨ (E = "java/lang/IllegalArgumentException" ∧ P (.inl (some (.int 2))) h9) ∨ (E = "java/lang/IllegalStateException" ∧ P (.inl (some (.int 3))) h9))) : Mt l G M_W_pick [.ref p0, .int p1, .int p2, .ref p3] h P := by
  refine Mt.ofH rfl ⟨_, _, rfl⟩ (Nat.le_of_ble_eq_true rfl) ?_
  show Ev l G M_W_pick 0 [(0, .ref p0), (1, .int p1), (2, .int p2), (3, .ref p3)] [] h 5 30 (ev_fin G M_W_pick P)
  refine e_aload_n fW_pick_0 rfl 3 rfl ?_
  refine e_iconst (v := 0) fW_pick_1 (by decide) ?_
  refine e_aload_n fW_pick_2 rfl 0 rfl ?_
  refine e_iload_n fW_pick_3 rfl 1 rfl ?_
  refine e_iload_n fW_pick_4 rfl 2 rfl ?_
  obtain ⟨gc, V⟩ := V
  obtain ⟨A, X, hm, V, VX⟩ := V
  refine e_callVi (uc' := 0) (us' := 0) (st := [.int 0, .ref p3]) fW_pick_5 wW_pick_5 rfl rfl gc hm (Nat.le_of_ble_eq_true rfl) (by decide) (by decide) (fun r2 h1 ga => ?_) (fun E h1 gx => ?_)
  · have V := V _ _ ga
    refine e_i2l fW_pick_8 rfl ?_
    obtain ⟨w3, g0, gw3, V⟩ := V
    refine e_last fW_pick_9 g0 gw3 (fun h4 eh4 => ?_)
    have V := V h4 eh4
    refine e_goto (tgt := 25) fW_pick_10 (by decide) ?_
    refine e_iconst (v := 0) fW_pick_25 (by decide) ?_
    exact e_iret fW_pick_26 rfl V
  · rcases VX E _ gx with ⟨rfl, V⟩ | ⟨rfl, V⟩ | ⟨rfl, V⟩
    · refine e_catch [] (0, 10, 13, 20) [(0, 10, 17, 13), (0, 10, 21, 22)] rfl (fun z hz => by cases hz) (by decide) (by decide) hW_20 (by decide +kernel) (fun q => ?_)
      refine e_astore (ls' := [(4, .ref q), (0, .ref p0), (1, .int p1), (2, .int p2), (3, .ref p3)]) fW_pick_13 (by decide) rfl ?_
      refine e_iconst (v := 1) fW_pick_15 (by decide) ?_
      exact e_iret fW_pick_16 rfl V
    · refine e_catch [(0, 10, 13, 20)] (0, 10, 17, 13) [(0, 10, 21, 22)] rfl (List.forall_mem_cons.mpr ⟨⟨by decide, "java/util/NoSuchElementException", hW_20, by decide +kernel⟩, (fun z hz => by cases hz)⟩) (by decide) (by decide) hW_13 (by decide +kernel) (fun q => ?_)
      refine e_astore (ls' := [(4, .ref q), (0, .ref p0), (1, .int p1), (2, .int p2), (3, .ref p3)]) fW_pick_17 (by decide) rfl ?_
      refine e_iconst (v := 2) fW_pick_19 (by decide) ?_
      exact e_iret fW_pick_20 rfl V
    · refine e_catch [(0, 10, 13, 20), (0, 10, 17, 13)] (0, 10, 21, 22) [] rfl (List.forall_mem_cons.mpr ⟨⟨by decide, "java/util/NoSuchElementException", hW_20, by decide +kernel⟩, (List.forall_mem_cons.mpr ⟨⟨by decide, "java/lang/IllegalArgumentException", hW_13, by decide +kernel⟩, (fun z hz => by cases hz)⟩)⟩) (by decide) (by decide) hW_22 (by decide +kernel) (fun q => ?_)
      refine e_astore (ls' := [(4, .ref q), (0, .ref p0), (1, .int p1), (2, .int p2), (3, .ref p3)]) fW_pick_21 (by decide) rfl ?_
      refine e_iconst (v := 3) fW_pick_23 (by decide) ?_
      exact e_iret fW_pick_24 rfl V
set_option maxRecDepth 20000 in
theorem vW_goOn {l : Launch} {G : ev_G} {h : ev_AH} {P : ev_Post} {p0 : Nat} {p1 : Int32} {p2 : Nat} (V : (∃ fs : List Value, h p0 = some (0, fs)) ∧ ∃ (A : Int32 → ev_AH → Prop) (X : String → ev_AH → Prop), Mt l G M_X_goOn [.ref p0, .int p1] h (ev_pi A X) ∧ (∀ (r2 : Int32) (h1 : ev_AH), A r2 h1 → ∃ w3 : Value, ¬ (0 : Int32) < 0 ∧ ev_f h1 p2 102 (Int32.toNatClampNeg 0) = some w3 ∧ ∀ h4 : ev_AH, h4 = ev_s h1 p2 (Int32.toNatClampNeg 0) (.long (Int32.toInt64 r2)) → P (.inl (some (.int 0))) h4) ∧ (∀ (E : String) (h9 : ev_AH), X E h9 → (E = "java/util/NoSuchElementException" ∧ P (.inl (some (.int 1))) h9) ∨ (E = "java/lang/IllegalStateException" ∧ P (.inl (some (.int 2))) h9))) : Mt l G M_W_goOn [.ref p0, .int p1, .ref p2] h P := by
  refine Mt.ofH rfl ⟨_, _, rfl⟩ (Nat.le_of_ble_eq_true rfl) ?_
  show Ev l G M_W_goOn 0 [(0, .ref p0), (1, .int p1), (2, .ref p2)] [] h 2 12 (ev_fin G M_W_goOn P)
  refine e_aload_n fW_goOn_0 rfl 2 rfl ?_
  refine e_iconst (v := 0) fW_goOn_1 (by decide) ?_
  refine e_aload_n fW_goOn_2 rfl 0 rfl ?_
  refine e_iload_n fW_goOn_3 rfl 1 rfl ?_
  obtain ⟨gc, V⟩ := V
  obtain ⟨A, X, hm, V, VX⟩ := V
  refine e_callVi (uc' := 0) (us' := 0) (st := [.int 0, .ref p2]) fW_goOn_4 wW_goOn_4 rfl rfl gc hm (Nat.le_of_ble_eq_true rfl) (by decide) (by decide) (fun r2 h1 ga => ?_) (fun E h1 gx => ?_)
  · have V := V _ _ ga
    refine e_i2l fW_goOn_7 rfl ?_
    obtain ⟨w3, g0, gw3, V⟩ := V
    refine e_last fW_goOn_8 g0 gw3 (fun h4 eh4 => ?_)
    have V := V h4 eh4
    refine e_goto (tgt := 18) fW_goOn_9 (by decide) ?_
    refine e_iconst (v := 0) fW_goOn_18 (by decide) ?_
    exact e_iret fW_goOn_19 rfl V
  · rcases VX E _ gx with ⟨rfl, V⟩ | ⟨rfl, V⟩
    · refine e_catch [] (0, 9, 12, 20) [(0, 9, 15, 22)] rfl (fun z hz => by cases hz) (by decide) (by decide) hW_20 (by decide +kernel) (fun q => ?_)
      refine e_astore_n (ls' := [(3, .ref q), (0, .ref p0), (1, .int p1), (2, .ref p2)]) fW_goOn_12 rfl (by decide) rfl ?_
      refine e_iconst (v := 1) fW_goOn_13 (by decide) ?_
      exact e_iret fW_goOn_14 rfl V
    · refine e_catch [(0, 9, 12, 20)] (0, 9, 15, 22) [] rfl (List.forall_mem_cons.mpr ⟨⟨by decide, "java/util/NoSuchElementException", hW_20, by decide +kernel⟩, (fun z hz => by cases hz)⟩) (by decide) (by decide) hW_22 (by decide +kernel) (fun q => ?_)
      refine e_astore_n (ls' := [(3, .ref q), (0, .ref p0), (1, .int p1), (2, .ref p2)]) fW_goOn_15 rfl (by decide) rfl ?_
      refine e_iconst (v := 2) fW_goOn_16 (by decide) ?_
      exact e_iret fW_goOn_17 rfl V
set_option maxRecDepth 20000 in
theorem vW_change {l : Launch} {G : ev_G} {h : ev_AH} {P : ev_Post} {p0 : Nat} {p1 : Int32} {p2 : Int32} {p3 : Int32} {p4 : Nat} (V : (∃ fs : List Value, h p0 = some (0, fs)) ∧ ∃ (A : Int32 → ev_AH → Prop) (X : String → ev_AH → Prop), Mt l G M_X_change [.ref p0, .int p1, .int p2, .int p3] h (ev_pi A X) ∧ (∀ (r2 : Int32) (h1 : ev_AH), A r2 h1 → ((r2 = 0 → ∃ w3 : Value, ¬ (0 : Int32) < 0 ∧ ev_f h1 p4 102 (Int32.toNatClampNeg 0) = some w3 ∧ ∀ h4 : ev_AH, h4 = ev_s h1 p4 (Int32.toNatClampNeg 0) (.long 0) → P (.inl (some (.int 0))) h4) ∧ (¬ r2 = 0 → ∃ w5 : Value, ¬ (0 : Int32) < 0 ∧ ev_f h1 p4 102 (Int32.toNatClampNeg 0) = some w5 ∧ ∀ h6 : ev_AH, h6 = ev_s h1 p4 (Int32.toNatClampNeg 0) (.long 1) → P (.inl (some (.int 0))) h6))) ∧ (∀ (E : String) (h9 : ev_AH), X E h9 → (E = "java/util/NoSuchElementException" ∧ P (.inl (some (.int 1))) h9) ∨ (E = "java/lang/IllegalArgumentException" ∧ P (.inl (some (.int 2))) h9) ∨ (E = "java/lang/IllegalStateException" ∧ P (.inl (some (.int 3))) h9))) : Mt l G M_W_change [.ref p0, .int p1, .int p2, .int p3, .ref p4] h P := by
  refine Mt.ofH rfl ⟨_, _, rfl⟩ (Nat.le_of_ble_eq_true rfl) ?_
  show Ev l G M_W_change 0 [(0, .ref p0), (1, .int p1), (2, .int p2), (3, .int p3), (4, .ref p4)] [] h 8 48 (ev_fin G M_W_change P)
  refine e_aload fW_change_0 4 rfl ?_
  refine e_iconst (v := 0) fW_change_2 (by decide) ?_
  refine e_aload_n fW_change_3 rfl 0 rfl ?_
  refine e_iload_n fW_change_4 rfl 1 rfl ?_
  refine e_iload_n fW_change_5 rfl 2 rfl ?_
  refine e_iload_n fW_change_6 rfl 3 rfl ?_
  obtain ⟨gc, V⟩ := V
  obtain ⟨A, X, hm, V, VX⟩ := V
  refine e_callVi (uc' := 0) (us' := 0) (st := [.int 0, .ref p4]) fW_change_7 wW_change_7 rfl rfl gc hm (Nat.le_of_ble_eq_true rfl) (by decide) (by decide) (fun r2 h1 ga => ?_) (fun E h1 gx => ?_)
  · have V := V _ _ ga
    refine e_if_eq (tgt := 17) fW_change_10 (by decide) (fun z => ?_) (fun z => ?_)
    · have V := V.1 z
      refine e_lconst (v := 0) fW_change_17 (by decide) ?_
      obtain ⟨w3, g0, gw3, V⟩ := V
      refine e_last fW_change_18 g0 gw3 (fun h4 eh4 => ?_)
      have V := V h4 eh4
      refine e_goto (tgt := 34) fW_change_19 (by decide) ?_
      refine e_iconst (v := 0) fW_change_34 (by decide) ?_
      exact e_iret fW_change_35 rfl V
    · have V := V.2 z
      refine e_lconst (v := 1) fW_change_13 (by decide) ?_
      refine e_goto (tgt := 18) fW_change_14 (by decide) ?_
      obtain ⟨w5, g0, gw5, V⟩ := V
      refine e_last fW_change_18 g0 gw5 (fun h6 eh6 => ?_)
      have V := V h6 eh6
      refine e_goto (tgt := 34) fW_change_19 (by decide) ?_
      refine e_iconst (v := 0) fW_change_34 (by decide) ?_
      exact e_iret fW_change_35 rfl V
  · rcases VX E _ gx with ⟨rfl, V⟩ | ⟨rfl, V⟩ | ⟨rfl, V⟩
    · refine e_catch [] (0, 19, 22, 20) [(0, 19, 26, 13), (0, 19, 30, 22)] rfl (fun z hz => by cases hz) (by decide) (by decide) hW_20 (by decide +kernel) (fun q => ?_)
      refine e_astore (ls' := [(5, .ref q), (0, .ref p0), (1, .int p1), (2, .int p2), (3, .int p3), (4, .ref p4)]) fW_change_22 (by decide) rfl ?_
      refine e_iconst (v := 1) fW_change_24 (by decide) ?_
      exact e_iret fW_change_25 rfl V
    · refine e_catch [(0, 19, 22, 20)] (0, 19, 26, 13) [(0, 19, 30, 22)] rfl (List.forall_mem_cons.mpr ⟨⟨by decide, "java/util/NoSuchElementException", hW_20, by decide +kernel⟩, (fun z hz => by cases hz)⟩) (by decide) (by decide) hW_13 (by decide +kernel) (fun q => ?_)
      refine e_astore (ls' := [(5, .ref q), (0, .ref p0), (1, .int p1), (2, .int p2), (3, .int p3), (4, .ref p4)]) fW_change_26 (by decide) rfl ?_
      refine e_iconst (v := 2) fW_change_28 (by decide) ?_
      exact e_iret fW_change_29 rfl V
    · refine e_catch [(0, 19, 22, 20), (0, 19, 26, 13)] (0, 19, 30, 22) [] rfl (List.forall_mem_cons.mpr ⟨⟨by decide, "java/util/NoSuchElementException", hW_20, by decide +kernel⟩, (List.forall_mem_cons.mpr ⟨⟨by decide, "java/lang/IllegalArgumentException", hW_13, by decide +kernel⟩, (fun z hz => by cases hz)⟩)⟩) (by decide) (by decide) hW_22 (by decide +kernel) (fun q => ?_)
      refine e_astore (ls' := [(5, .ref q), (0, .ref p0), (1, .int p1), (2, .int p2), (3, .int p3), (4, .ref p4)]) fW_change_30 (by decide) rfl ?_
      refine e_iconst (v := 3) fW_change_32 (by decide) ?_
      exact e_iret fW_change_33 rfl V
set_option maxRecDepth 20000 in
theorem vW_move {l : Launch} {G : ev_G} {h : ev_AH} {P : ev_Post} {p0 : Nat} {p1 : Int32} {p2 : Int32} {p3 : Nat} (V : (∃ fs : List Value, h p0 = some (0, fs)) ∧ ∃ (A : Int32 → ev_AH → Prop) (X : String → ev_AH → Prop), Mt l G M_X_move [.ref p0, .int p1, .int p2] h (ev_pi A X) ∧ (∀ (r2 : Int32) (h1 : ev_AH), A r2 h1 → ((r2 = 0 → ∃ w3 : Value, ¬ (0 : Int32) < 0 ∧ ev_f h1 p3 102 (Int32.toNatClampNeg 0) = some w3 ∧ ∀ h4 : ev_AH, h4 = ev_s h1 p3 (Int32.toNatClampNeg 0) (.long 0) → P (.inl (some (.int 0))) h4) ∧ (¬ r2 = 0 → ∃ w5 : Value, ¬ (0 : Int32) < 0 ∧ ev_f h1 p3 102 (Int32.toNatClampNeg 0) = some w5 ∧ ∀ h6 : ev_AH, h6 = ev_s h1 p3 (Int32.toNatClampNeg 0) (.long 1) → P (.inl (some (.int 0))) h6))) ∧ (∀ (E : String) (h9 : ev_AH), X E h9 → (E = "java/util/NoSuchElementException" ∧ P (.inl (some (.int 1))) h9) ∨ (E = "java/lang/IllegalArgumentException" ∧ P (.inl (some (.int 2))) h9))) : Mt l G M_W_move [.ref p0, .int p1, .int p2, .ref p3] h P := by
  refine Mt.ofH rfl ⟨_, _, rfl⟩ (Nat.le_of_ble_eq_true rfl) ?_
  show Ev l G M_W_move 0 [(0, .ref p0), (1, .int p1), (2, .int p2), (3, .ref p3)] [] h 2 12 (ev_fin G M_W_move P)
  refine e_aload_n fW_move_0 rfl 3 rfl ?_
  refine e_iconst (v := 0) fW_move_1 (by decide) ?_
  refine e_aload_n fW_move_2 rfl 0 rfl ?_
  refine e_iload_n fW_move_3 rfl 1 rfl ?_
  refine e_iload_n fW_move_4 rfl 2 rfl ?_
  obtain ⟨gc, V⟩ := V
  obtain ⟨A, X, hm, V, VX⟩ := V
  refine e_callVi (uc' := 0) (us' := 0) (st := [.int 0, .ref p3]) fW_move_5 wW_move_5 rfl rfl gc hm (Nat.le_of_ble_eq_true rfl) (by decide) (by decide) (fun r2 h1 ga => ?_) (fun E h1 gx => ?_)
  · have V := V _ _ ga
    refine e_if_eq (tgt := 15) fW_move_8 (by decide) (fun z => ?_) (fun z => ?_)
    · have V := V.1 z
      refine e_lconst (v := 0) fW_move_15 (by decide) ?_
      obtain ⟨w3, g0, gw3, V⟩ := V
      refine e_last fW_move_16 g0 gw3 (fun h4 eh4 => ?_)
      have V := V h4 eh4
      refine e_goto (tgt := 28) fW_move_17 (by decide) ?_
      refine e_iconst (v := 0) fW_move_28 (by decide) ?_
      exact e_iret fW_move_29 rfl V
    · have V := V.2 z
      refine e_lconst (v := 1) fW_move_11 (by decide) ?_
      refine e_goto (tgt := 16) fW_move_12 (by decide) ?_
      obtain ⟨w5, g0, gw5, V⟩ := V
      refine e_last fW_move_16 g0 gw5 (fun h6 eh6 => ?_)
      have V := V h6 eh6
      refine e_goto (tgt := 28) fW_move_17 (by decide) ?_
      refine e_iconst (v := 0) fW_move_28 (by decide) ?_
      exact e_iret fW_move_29 rfl V
  · rcases VX E _ gx with ⟨rfl, V⟩ | ⟨rfl, V⟩
    · refine e_catch [] (0, 17, 20, 20) [(0, 17, 24, 13)] rfl (fun z hz => by cases hz) (by decide) (by decide) hW_20 (by decide +kernel) (fun q => ?_)
      refine e_astore (ls' := [(4, .ref q), (0, .ref p0), (1, .int p1), (2, .int p2), (3, .ref p3)]) fW_move_20 (by decide) rfl ?_
      refine e_iconst (v := 1) fW_move_22 (by decide) ?_
      exact e_iret fW_move_23 rfl V
    · refine e_catch [(0, 17, 20, 20)] (0, 17, 24, 13) [] rfl (List.forall_mem_cons.mpr ⟨⟨by decide, "java/util/NoSuchElementException", hW_20, by decide +kernel⟩, (fun z hz => by cases hz)⟩) (by decide) (by decide) hW_13 (by decide +kernel) (fun q => ?_)
      refine e_astore (ls' := [(4, .ref q), (0, .ref p0), (1, .int p1), (2, .int p2), (3, .ref p3)]) fW_move_24 (by decide) rfl ?_
      refine e_iconst (v := 2) fW_move_26 (by decide) ?_
      exact e_iret fW_move_27 rfl V
set_option maxRecDepth 20000 in
theorem vW_cancel {l : Launch} {G : ev_G} {h : ev_AH} {P : ev_Post} {p0 : Nat} {p1 : Int32} {p2 : Nat} (V : (∃ fs : List Value, h p0 = some (0, fs)) ∧ ∃ (A : Int32 → ev_AH → Prop) (X : String → ev_AH → Prop), Mt l G M_X_cancel [.ref p0, .int p1] h (ev_pi A X) ∧ (∀ (r2 : Int32) (h1 : ev_AH), A r2 h1 → ∃ w3 : Value, ¬ (0 : Int32) < 0 ∧ ev_f h1 p2 102 (Int32.toNatClampNeg 0) = some w3 ∧ ∀ h4 : ev_AH, h4 = ev_s h1 p2 (Int32.toNatClampNeg 0) (.long (Int32.toInt64 r2)) → P (.inl (some (.int 0))) h4) ∧ (∀ (E : String) (h9 : ev_AH), X E h9 → (E = "java/util/NoSuchElementException" ∧ P (.inl (some (.int 1))) h9) ∨ (E = "java/lang/IllegalStateException" ∧ P (.inl (some (.int 2))) h9))) : Mt l G M_W_cancel [.ref p0, .int p1, .ref p2] h P := by
  refine Mt.ofH rfl ⟨_, _, rfl⟩ (Nat.le_of_ble_eq_true rfl) ?_
  show Ev l G M_W_cancel 0 [(0, .ref p0), (1, .int p1), (2, .ref p2)] [] h 3 18 (ev_fin G M_W_cancel P)
  refine e_aload_n fW_cancel_0 rfl 2 rfl ?_
  refine e_iconst (v := 0) fW_cancel_1 (by decide) ?_
  refine e_aload_n fW_cancel_2 rfl 0 rfl ?_
  refine e_iload_n fW_cancel_3 rfl 1 rfl ?_
  obtain ⟨gc, V⟩ := V
  obtain ⟨A, X, hm, V, VX⟩ := V
  refine e_callVi (uc' := 0) (us' := 0) (st := [.int 0, .ref p2]) fW_cancel_4 wW_cancel_4 rfl rfl gc hm (Nat.le_of_ble_eq_true rfl) (by decide) (by decide) (fun r2 h1 ga => ?_) (fun E h1 gx => ?_)
  · have V := V _ _ ga
    refine e_i2l fW_cancel_7 rfl ?_
    obtain ⟨w3, g0, gw3, V⟩ := V
    refine e_last fW_cancel_8 g0 gw3 (fun h4 eh4 => ?_)
    have V := V h4 eh4
    refine e_goto (tgt := 18) fW_cancel_9 (by decide) ?_
    refine e_iconst (v := 0) fW_cancel_18 (by decide) ?_
    exact e_iret fW_cancel_19 rfl V
  · rcases VX E _ gx with ⟨rfl, V⟩ | ⟨rfl, V⟩
    · refine e_catch [] (0, 9, 12, 20) [(0, 9, 15, 22)] rfl (fun z hz => by cases hz) (by decide) (by decide) hW_20 (by decide +kernel) (fun q => ?_)
      refine e_astore_n (ls' := [(3, .ref q), (0, .ref p0), (1, .int p1), (2, .ref p2)]) fW_cancel_12 rfl (by decide) rfl ?_
      refine e_iconst (v := 1) fW_cancel_13 (by decide) ?_
      exact e_iret fW_cancel_14 rfl V
    · refine e_catch [(0, 9, 12, 20)] (0, 9, 15, 22) [] rfl (List.forall_mem_cons.mpr ⟨⟨by decide, "java/util/NoSuchElementException", hW_20, by decide +kernel⟩, (fun z hz => by cases hz)⟩) (by decide) (by decide) hW_22 (by decide +kernel) (fun q => ?_)
      refine e_astore_n (ls' := [(3, .ref q), (0, .ref p0), (1, .int p1), (2, .ref p2)]) fW_cancel_15 rfl (by decide) rfl ?_
      refine e_iconst (v := 2) fW_cancel_16 (by decide) ?_
      exact e_iret fW_cancel_17 rfl V
set_option maxRecDepth 20000 in
theorem vW_join {l : Launch} {G : ev_G} {h : ev_AH} {P : ev_Post} {p0 : Nat} {p1 : Int32} {p2 : Int32} (V : (∃ fs : List Value, h p0 = some (0, fs)) ∧ ∃ (A : ev_AH → Prop) (X : String → ev_AH → Prop), Mt l G M_X_join [.ref p0, .int p1, .int p2] h (ev_pv A X) ∧ (∀ h1 : ev_AH, A h1 → P (.inl (some (.int 0))) h1) ∧ (∀ (E : String) (h9 : ev_AH), X E h9 → (E = "java/util/NoSuchElementException" ∧ P (.inl (some (.int 1))) h9) ∨ (E = "java/lang/IllegalStateException" ∧ P (.inl (some (.int 2))) h9) ∨ (E = "java/lang/UnsupportedOperationException" ∧ P (.inl (some (.int 3))) h9))) : Mt l G M_W_join [.ref p0, .int p1, .int p2] h P := by
  refine Mt.ofH rfl ⟨_, _, rfl⟩ (Nat.le_of_ble_eq_true rfl) ?_
  show Ev l G M_W_join 0 [(0, .ref p0), (1, .int p1), (2, .int p2)] [] h 23 842 (ev_fin G M_W_join P)
  refine e_aload_n fW_join_0 rfl 0 rfl ?_
  refine e_iload_n fW_join_1 rfl 1 rfl ?_
  refine e_iload_n fW_join_2 rfl 2 rfl ?_
  obtain ⟨gc, V⟩ := V
  obtain ⟨A, X, hm, V, VX⟩ := V
  refine e_callVv (uc' := 0) (us' := 0) (st := []) fW_join_3 wW_join_3 rfl rfl gc hm (Nat.le_of_ble_eq_true rfl) (by decide) (by decide) (fun h1 ga => ?_) (fun E h1 gx => ?_)
  · have V := V _ ga
    refine e_goto (tgt := 18) fW_join_6 (by decide) ?_
    refine e_iconst (v := 0) fW_join_18 (by decide) ?_
    exact e_iret fW_join_19 rfl V
  · rcases VX E _ gx with ⟨rfl, V⟩ | ⟨rfl, V⟩ | ⟨rfl, V⟩
    · refine e_catch [] (0, 6, 9, 20) [(0, 6, 12, 22), (0, 6, 15, 15)] rfl (fun z hz => by cases hz) (by decide) (by decide) hW_20 (by decide +kernel) (fun q => ?_)
      refine e_astore_n (ls' := [(3, .ref q), (0, .ref p0), (1, .int p1), (2, .int p2)]) fW_join_9 rfl (by decide) rfl ?_
      refine e_iconst (v := 1) fW_join_10 (by decide) ?_
      exact e_iret fW_join_11 rfl V
    · refine e_catch [(0, 6, 9, 20)] (0, 6, 12, 22) [(0, 6, 15, 15)] rfl (List.forall_mem_cons.mpr ⟨⟨by decide, "java/util/NoSuchElementException", hW_20, by decide +kernel⟩, (fun z hz => by cases hz)⟩) (by decide) (by decide) hW_22 (by decide +kernel) (fun q => ?_)
      refine e_astore_n (ls' := [(3, .ref q), (0, .ref p0), (1, .int p1), (2, .int p2)]) fW_join_12 rfl (by decide) rfl ?_
      refine e_iconst (v := 2) fW_join_13 (by decide) ?_
      exact e_iret fW_join_14 rfl V
    · refine e_catch [(0, 6, 9, 20), (0, 6, 12, 22)] (0, 6, 15, 15) [] rfl (List.forall_mem_cons.mpr ⟨⟨by decide, "java/util/NoSuchElementException", hW_20, by decide +kernel⟩, (List.forall_mem_cons.mpr ⟨⟨by decide, "java/lang/IllegalStateException", hW_22, by decide +kernel⟩, (fun z hz => by cases hz)⟩)⟩) (by decide) (by decide) hW_15 (by decide +kernel) (fun q => ?_)
      refine e_astore_n (ls' := [(3, .ref q), (0, .ref p0), (1, .int p1), (2, .int p2)]) fW_join_15 rfl (by decide) rfl ?_
      refine e_iconst (v := 3) fW_join_16 (by decide) ?_
      exact e_iret fW_join_17 rfl V
set_option maxRecDepth 20000 in
theorem vW_block {l : Launch} {G : ev_G} {h : ev_AH} {P : ev_Post} {p0 : Nat} {p1 : Int32} {p2 : Int32} {p3 : Int32} {p4 : Nat} (V : (∃ fs : List Value, h p0 = some (0, fs)) ∧ ∃ (A : Int32 → ev_AH → Prop) (X : String → ev_AH → Prop), Mt l G M_X_block [.ref p0, .int p1, .int p2, .int p3] h (ev_pi A X) ∧ (∀ (r2 : Int32) (h1 : ev_AH), A r2 h1 → ∃ w3 : Value, ¬ (0 : Int32) < 0 ∧ ev_f h1 p4 102 (Int32.toNatClampNeg 0) = some w3 ∧ ∀ h4 : ev_AH, h4 = ev_s h1 p4 (Int32.toNatClampNeg 0) (.long (Int32.toInt64 r2)) → P (.inl (some (.int 0))) h4) ∧ (∀ (E : String) (h9 : ev_AH), X E h9 → (E = "java/util/NoSuchElementException" ∧ P (.inl (some (.int 1))) h9) ∨ (E = "java/lang/IllegalArgumentException" ∧ P (.inl (some (.int 2))) h9) ∨ (E = "java/lang/IllegalStateException" ∧ P (.inl (some (.int 3))) h9))) : Mt l G M_W_block [.ref p0, .int p1, .int p2, .int p3, .ref p4] h P := by
  refine Mt.ofH rfl ⟨_, _, rfl⟩ (Nat.le_of_ble_eq_true rfl) ?_
  show Ev l G M_W_block 0 [(0, .ref p0), (1, .int p1), (2, .int p2), (3, .int p3), (4, .ref p4)] [] h 4 24 (ev_fin G M_W_block P)
  refine e_aload fW_block_0 4 rfl ?_
  refine e_iconst (v := 0) fW_block_2 (by decide) ?_
  refine e_aload_n fW_block_3 rfl 0 rfl ?_
  refine e_iload_n fW_block_4 rfl 1 rfl ?_
  refine e_iload_n fW_block_5 rfl 2 rfl ?_
  refine e_iload_n fW_block_6 rfl 3 rfl ?_
  obtain ⟨gc, V⟩ := V
  obtain ⟨A, X, hm, V, VX⟩ := V
  refine e_callVi (uc' := 0) (us' := 0) (st := [.int 0, .ref p4]) fW_block_7 wW_block_7 rfl rfl gc hm (Nat.le_of_ble_eq_true rfl) (by decide) (by decide) (fun r2 h1 ga => ?_) (fun E h1 gx => ?_)
  · have V := V _ _ ga
    refine e_i2l fW_block_10 rfl ?_
    obtain ⟨w3, g0, gw3, V⟩ := V
    refine e_last fW_block_11 g0 gw3 (fun h4 eh4 => ?_)
    have V := V h4 eh4
    refine e_goto (tgt := 27) fW_block_12 (by decide) ?_
    refine e_iconst (v := 0) fW_block_27 (by decide) ?_
    exact e_iret fW_block_28 rfl V
  · rcases VX E _ gx with ⟨rfl, V⟩ | ⟨rfl, V⟩ | ⟨rfl, V⟩
    · refine e_catch [] (0, 12, 15, 20) [(0, 12, 19, 13), (0, 12, 23, 22)] rfl (fun z hz => by cases hz) (by decide) (by decide) hW_20 (by decide +kernel) (fun q => ?_)
      refine e_astore (ls' := [(5, .ref q), (0, .ref p0), (1, .int p1), (2, .int p2), (3, .int p3), (4, .ref p4)]) fW_block_15 (by decide) rfl ?_
      refine e_iconst (v := 1) fW_block_17 (by decide) ?_
      exact e_iret fW_block_18 rfl V
    · refine e_catch [(0, 12, 15, 20)] (0, 12, 19, 13) [(0, 12, 23, 22)] rfl (List.forall_mem_cons.mpr ⟨⟨by decide, "java/util/NoSuchElementException", hW_20, by decide +kernel⟩, (fun z hz => by cases hz)⟩) (by decide) (by decide) hW_13 (by decide +kernel) (fun q => ?_)
      refine e_astore (ls' := [(5, .ref q), (0, .ref p0), (1, .int p1), (2, .int p2), (3, .int p3), (4, .ref p4)]) fW_block_19 (by decide) rfl ?_
      refine e_iconst (v := 2) fW_block_21 (by decide) ?_
      exact e_iret fW_block_22 rfl V
    · refine e_catch [(0, 12, 15, 20), (0, 12, 19, 13)] (0, 12, 23, 22) [] rfl (List.forall_mem_cons.mpr ⟨⟨by decide, "java/util/NoSuchElementException", hW_20, by decide +kernel⟩, (List.forall_mem_cons.mpr ⟨⟨by decide, "java/lang/IllegalArgumentException", hW_13, by decide +kernel⟩, (fun z hz => by cases hz)⟩)⟩) (by decide) (by decide) hW_22 (by decide +kernel) (fun q => ?_)
      refine e_astore (ls' := [(5, .ref q), (0, .ref p0), (1, .int p1), (2, .int p2), (3, .int p3), (4, .ref p4)]) fW_block_23 (by decide) rfl ?_
      refine e_iconst (v := 3) fW_block_25 (by decide) ?_
      exact e_iret fW_block_26 rfl V
set_option maxRecDepth 20000 in
theorem vW_backorder {l : Launch} {G : ev_G} {h : ev_AH} {P : ev_Post} {p0 : Nat} {p1 : Int32} {p2 : Nat} (V : (∃ fs : List Value, h p0 = some (0, fs)) ∧ ∃ (A : Int32 → ev_AH → Prop) (X : String → ev_AH → Prop), Mt l G M_X_backorder [.ref p0, .int p1] h (ev_pi A X) ∧ (∀ (r2 : Int32) (h1 : ev_AH), A r2 h1 → ∃ w3 : Value, ¬ (0 : Int32) < 0 ∧ ev_f h1 p2 102 (Int32.toNatClampNeg 0) = some w3 ∧ ∀ h4 : ev_AH, h4 = ev_s h1 p2 (Int32.toNatClampNeg 0) (.long (Int32.toInt64 r2)) → P (.inl (some (.int 0))) h4) ∧ (∀ (E : String) (h9 : ev_AH), X E h9 → (E = "java/util/NoSuchElementException" ∧ P (.inl (some (.int 1))) h9) ∨ (E = "java/lang/IllegalStateException" ∧ P (.inl (some (.int 2))) h9) ∨ (E = "java/lang/UnsupportedOperationException" ∧ P (.inl (some (.int 3))) h9))) : Mt l G M_W_backorder [.ref p0, .int p1, .ref p2] h P := by
  refine Mt.ofH rfl ⟨_, _, rfl⟩ (Nat.le_of_ble_eq_true rfl) ?_
  show Ev l G M_W_backorder 0 [(0, .ref p0), (1, .int p1), (2, .ref p2)] [] h 14 354 (ev_fin G M_W_backorder P)
  refine e_aload_n fW_backorder_0 rfl 2 rfl ?_
  refine e_iconst (v := 0) fW_backorder_1 (by decide) ?_
  refine e_aload_n fW_backorder_2 rfl 0 rfl ?_
  refine e_iload_n fW_backorder_3 rfl 1 rfl ?_
  obtain ⟨gc, V⟩ := V
  obtain ⟨A, X, hm, V, VX⟩ := V
  refine e_callVi (uc' := 0) (us' := 0) (st := [.int 0, .ref p2]) fW_backorder_4 wW_backorder_4 rfl rfl gc hm (Nat.le_of_ble_eq_true rfl) (by decide) (by decide) (fun r2 h1 ga => ?_) (fun E h1 gx => ?_)
  · have V := V _ _ ga
    refine e_i2l fW_backorder_7 rfl ?_
    obtain ⟨w3, g0, gw3, V⟩ := V
    refine e_last fW_backorder_8 g0 gw3 (fun h4 eh4 => ?_)
    have V := V h4 eh4
    refine e_goto (tgt := 21) fW_backorder_9 (by decide) ?_
    refine e_iconst (v := 0) fW_backorder_21 (by decide) ?_
    exact e_iret fW_backorder_22 rfl V
  · rcases VX E _ gx with ⟨rfl, V⟩ | ⟨rfl, V⟩ | ⟨rfl, V⟩
    · refine e_catch [] (0, 9, 12, 20) [(0, 9, 15, 22), (0, 9, 18, 15)] rfl (fun z hz => by cases hz) (by decide) (by decide) hW_20 (by decide +kernel) (fun q => ?_)
      refine e_astore_n (ls' := [(3, .ref q), (0, .ref p0), (1, .int p1), (2, .ref p2)]) fW_backorder_12 rfl (by decide) rfl ?_
      refine e_iconst (v := 1) fW_backorder_13 (by decide) ?_
      exact e_iret fW_backorder_14 rfl V
    · refine e_catch [(0, 9, 12, 20)] (0, 9, 15, 22) [(0, 9, 18, 15)] rfl (List.forall_mem_cons.mpr ⟨⟨by decide, "java/util/NoSuchElementException", hW_20, by decide +kernel⟩, (fun z hz => by cases hz)⟩) (by decide) (by decide) hW_22 (by decide +kernel) (fun q => ?_)
      refine e_astore_n (ls' := [(3, .ref q), (0, .ref p0), (1, .int p1), (2, .ref p2)]) fW_backorder_15 rfl (by decide) rfl ?_
      refine e_iconst (v := 2) fW_backorder_16 (by decide) ?_
      exact e_iret fW_backorder_17 rfl V
    · refine e_catch [(0, 9, 12, 20), (0, 9, 15, 22)] (0, 9, 18, 15) [] rfl (List.forall_mem_cons.mpr ⟨⟨by decide, "java/util/NoSuchElementException", hW_20, by decide +kernel⟩, (List.forall_mem_cons.mpr ⟨⟨by decide, "java/lang/IllegalStateException", hW_22, by decide +kernel⟩, (fun z hz => by cases hz)⟩)⟩) (by decide) (by decide) hW_15 (by decide +kernel) (fun q => ?_)
      refine e_astore_n (ls' := [(3, .ref q), (0, .ref p0), (1, .int p1), (2, .ref p2)]) fW_backorder_18 rfl (by decide) rfl ?_
      refine e_iconst (v := 3) fW_backorder_19 (by decide) ?_
      exact e_iret fW_backorder_20 rfl V
set_option maxRecDepth 20000 in
theorem vW_ready {l : Launch} {G : ev_G} {h : ev_AH} {P : ev_Post} {p0 : Nat} {p1 : Int32} {p2 : Nat} (V : (∃ fs : List Value, h p0 = some (0, fs)) ∧ ∃ (A : Int32 → ev_AH → Prop) (X : String → ev_AH → Prop), Mt l G M_X_ready [.ref p0, .int p1] h (ev_pi A X) ∧ (∀ (r2 : Int32) (h1 : ev_AH), A r2 h1 → ∃ w3 : Value, ¬ (0 : Int32) < 0 ∧ ev_f h1 p2 102 (Int32.toNatClampNeg 0) = some w3 ∧ ∀ h4 : ev_AH, h4 = ev_s h1 p2 (Int32.toNatClampNeg 0) (.long (Int32.toInt64 r2)) → P (.inl (some (.int 0))) h4) ∧ (∀ (E : String) (h9 : ev_AH), X E h9 → (E = "java/lang/IllegalArgumentException" ∧ P (.inl (some (.int 1))) h9))) : Mt l G M_W_ready [.ref p0, .int p1, .ref p2] h P := by
  refine Mt.ofH rfl ⟨_, _, rfl⟩ (Nat.le_of_ble_eq_true rfl) ?_
  show Ev l G M_W_ready 0 [(0, .ref p0), (1, .int p1), (2, .ref p2)] [] h 1 6 (ev_fin G M_W_ready P)
  refine e_aload_n fW_ready_0 rfl 2 rfl ?_
  refine e_iconst (v := 0) fW_ready_1 (by decide) ?_
  refine e_aload_n fW_ready_2 rfl 0 rfl ?_
  refine e_iload_n fW_ready_3 rfl 1 rfl ?_
  obtain ⟨gc, V⟩ := V
  obtain ⟨A, X, hm, V, VX⟩ := V
  refine e_callVi (uc' := 0) (us' := 0) (st := [.int 0, .ref p2]) fW_ready_4 wW_ready_4 rfl rfl gc hm (Nat.le_of_ble_eq_true rfl) (by decide) (by decide) (fun r2 h1 ga => ?_) (fun E h1 gx => ?_)
  · have V := V _ _ ga
    refine e_i2l fW_ready_7 rfl ?_
    obtain ⟨w3, g0, gw3, V⟩ := V
    refine e_last fW_ready_8 g0 gw3 (fun h4 eh4 => ?_)
    have V := V h4 eh4
    refine e_goto (tgt := 15) fW_ready_9 (by decide) ?_
    refine e_iconst (v := 0) fW_ready_15 (by decide) ?_
    exact e_iret fW_ready_16 rfl V
  · rcases VX E _ gx with ⟨rfl, V⟩
    · refine e_catch [] (0, 9, 12, 13) [] rfl (fun z hz => by cases hz) (by decide) (by decide) hW_13 (by decide +kernel) (fun q => ?_)
      refine e_astore_n (ls' := [(3, .ref q), (0, .ref p0), (1, .int p1), (2, .ref p2)]) fW_ready_12 rfl (by decide) rfl ?_
      refine e_iconst (v := 1) fW_ready_13 (by decide) ?_
      exact e_iret fW_ready_14 rfl V
set_option maxRecDepth 20000 in
theorem vW_told {l : Launch} {G : ev_G} {h : ev_AH} {P : ev_Post} {p0 : Nat} {p1 : Int32} {p2 : Int32} {p3 : Nat} (V : (∃ fs : List Value, h p0 = some (0, fs)) ∧ ∃ (A : Int32 → ev_AH → Prop) (X : String → ev_AH → Prop), Mt l G M_X_told [.ref p0, .int p1, .int p2] h (ev_pi A X) ∧ (∀ (r2 : Int32) (h1 : ev_AH), A r2 h1 → ∃ w3 : Value, ¬ (0 : Int32) < 0 ∧ ev_f h1 p3 102 (Int32.toNatClampNeg 0) = some w3 ∧ ∀ h4 : ev_AH, h4 = ev_s h1 p3 (Int32.toNatClampNeg 0) (.long (Int32.toInt64 r2)) → P (.inl (some (.int 0))) h4) ∧ (∀ (E : String) (h9 : ev_AH), X E h9 → (E = "java/util/NoSuchElementException" ∧ P (.inl (some (.int 1))) h9) ∨ (E = "java/lang/IllegalArgumentException" ∧ P (.inl (some (.int 2))) h9))) : Mt l G M_W_told [.ref p0, .int p1, .int p2, .ref p3] h P := by
  refine Mt.ofH rfl ⟨_, _, rfl⟩ (Nat.le_of_ble_eq_true rfl) ?_
  show Ev l G M_W_told 0 [(0, .ref p0), (1, .int p1), (2, .int p2), (3, .ref p3)] [] h 2 12 (ev_fin G M_W_told P)
  refine e_aload_n fW_told_0 rfl 3 rfl ?_
  refine e_iconst (v := 0) fW_told_1 (by decide) ?_
  refine e_aload_n fW_told_2 rfl 0 rfl ?_
  refine e_iload_n fW_told_3 rfl 1 rfl ?_
  refine e_iload_n fW_told_4 rfl 2 rfl ?_
  obtain ⟨gc, V⟩ := V
  obtain ⟨A, X, hm, V, VX⟩ := V
  refine e_callVi (uc' := 0) (us' := 0) (st := [.int 0, .ref p3]) fW_told_5 wW_told_5 rfl rfl gc hm (Nat.le_of_ble_eq_true rfl) (by decide) (by decide) (fun r2 h1 ga => ?_) (fun E h1 gx => ?_)
  · have V := V _ _ ga
    refine e_i2l fW_told_8 rfl ?_
    obtain ⟨w3, g0, gw3, V⟩ := V
    refine e_last fW_told_9 g0 gw3 (fun h4 eh4 => ?_)
    have V := V h4 eh4
    refine e_goto (tgt := 21) fW_told_10 (by decide) ?_
    refine e_iconst (v := 0) fW_told_21 (by decide) ?_
    exact e_iret fW_told_22 rfl V
  · rcases VX E _ gx with ⟨rfl, V⟩ | ⟨rfl, V⟩
    · refine e_catch [] (0, 10, 13, 20) [(0, 10, 17, 13)] rfl (fun z hz => by cases hz) (by decide) (by decide) hW_20 (by decide +kernel) (fun q => ?_)
      refine e_astore (ls' := [(4, .ref q), (0, .ref p0), (1, .int p1), (2, .int p2), (3, .ref p3)]) fW_told_13 (by decide) rfl ?_
      refine e_iconst (v := 1) fW_told_15 (by decide) ?_
      exact e_iret fW_told_16 rfl V
    · refine e_catch [(0, 10, 13, 20)] (0, 10, 17, 13) [] rfl (List.forall_mem_cons.mpr ⟨⟨by decide, "java/util/NoSuchElementException", hW_20, by decide +kernel⟩, (fun z hz => by cases hz)⟩) (by decide) (by decide) hW_13 (by decide +kernel) (fun q => ?_)
      refine e_astore (ls' := [(4, .ref q), (0, .ref p0), (1, .int p1), (2, .int p2), (3, .ref p3)]) fW_told_17 (by decide) rfl ?_
      refine e_iconst (v := 2) fW_told_19 (by decide) ?_
      exact e_iret fW_told_20 rfl V
set_option maxRecDepth 20000 in
theorem vW_lineOf {l : Launch} {G : ev_G} {h : ev_AH} {P : ev_Post} {p0 : Nat} {p1 : Int32} {p2 : Int32} {p3 : Nat} (V : (∃ fs : List Value, h p0 = some (0, fs)) ∧ ∃ (A : Int32 → ev_AH → Prop) (X : String → ev_AH → Prop), Mt l G M_X_lineOf [.ref p0, .int p1, .int p2] h (ev_pi A X) ∧ (∀ (r2 : Int32) (h1 : ev_AH), A r2 h1 → ∃ w3 : Value, ¬ (0 : Int32) < 0 ∧ ev_f h1 p3 102 (Int32.toNatClampNeg 0) = some w3 ∧ ∀ h4 : ev_AH, h4 = ev_s h1 p3 (Int32.toNatClampNeg 0) (.long (Int32.toInt64 r2)) → P (.inl (some (.int 0))) h4) ∧ (∀ (E : String) (h9 : ev_AH), X E h9 → (E = "java/util/NoSuchElementException" ∧ P (.inl (some (.int 1))) h9) ∨ (E = "java/lang/IllegalArgumentException" ∧ P (.inl (some (.int 2))) h9))) : Mt l G M_W_lineOf [.ref p0, .int p1, .int p2, .ref p3] h P := by
  refine Mt.ofH rfl ⟨_, _, rfl⟩ (Nat.le_of_ble_eq_true rfl) ?_
  show Ev l G M_W_lineOf 0 [(0, .ref p0), (1, .int p1), (2, .int p2), (3, .ref p3)] [] h 2 12 (ev_fin G M_W_lineOf P)
  refine e_aload_n fW_lineOf_0 rfl 3 rfl ?_
  refine e_iconst (v := 0) fW_lineOf_1 (by decide) ?_
  refine e_aload_n fW_lineOf_2 rfl 0 rfl ?_
  refine e_iload_n fW_lineOf_3 rfl 1 rfl ?_
  refine e_iload_n fW_lineOf_4 rfl 2 rfl ?_
  obtain ⟨gc, V⟩ := V
  obtain ⟨A, X, hm, V, VX⟩ := V
  refine e_callVi (uc' := 0) (us' := 0) (st := [.int 0, .ref p3]) fW_lineOf_5 wW_lineOf_5 rfl rfl gc hm (Nat.le_of_ble_eq_true rfl) (by decide) (by decide) (fun r2 h1 ga => ?_) (fun E h1 gx => ?_)
  · have V := V _ _ ga
    refine e_i2l fW_lineOf_8 rfl ?_
    obtain ⟨w3, g0, gw3, V⟩ := V
    refine e_last fW_lineOf_9 g0 gw3 (fun h4 eh4 => ?_)
    have V := V h4 eh4
    refine e_goto (tgt := 21) fW_lineOf_10 (by decide) ?_
    refine e_iconst (v := 0) fW_lineOf_21 (by decide) ?_
    exact e_iret fW_lineOf_22 rfl V
  · rcases VX E _ gx with ⟨rfl, V⟩ | ⟨rfl, V⟩
    · refine e_catch [] (0, 10, 13, 20) [(0, 10, 17, 13)] rfl (fun z hz => by cases hz) (by decide) (by decide) hW_20 (by decide +kernel) (fun q => ?_)
      refine e_astore (ls' := [(4, .ref q), (0, .ref p0), (1, .int p1), (2, .int p2), (3, .ref p3)]) fW_lineOf_13 (by decide) rfl ?_
      refine e_iconst (v := 1) fW_lineOf_15 (by decide) ?_
      exact e_iret fW_lineOf_16 rfl V
    · refine e_catch [(0, 10, 13, 20)] (0, 10, 17, 13) [] rfl (List.forall_mem_cons.mpr ⟨⟨by decide, "java/util/NoSuchElementException", hW_20, by decide +kernel⟩, (fun z hz => by cases hz)⟩) (by decide) (by decide) hW_13 (by decide +kernel) (fun q => ?_)
      refine e_astore (ls' := [(4, .ref q), (0, .ref p0), (1, .int p1), (2, .int p2), (3, .ref p3)]) fW_lineOf_17 (by decide) rfl ?_
      refine e_iconst (v := 2) fW_lineOf_19 (by decide) ?_
      exact e_iret fW_lineOf_20 rfl V
set_option maxRecDepth 20000 in
theorem vW_packed {l : Launch} {G : ev_G} {h : ev_AH} {P : ev_Post} {p0 : Nat} {p1 : Int32} {p2 : Nat} (V : (∃ fs : List Value, h p0 = some (0, fs)) ∧ ∃ (A : Int64 → ev_AH → Prop) (X : String → ev_AH → Prop), Mt l G M_X_packed [.ref p0, .int p1] h (ev_pl A X) ∧ (∀ (r2 : Int64) (h1 : ev_AH), A r2 h1 → ∃ w3 : Value, ¬ (0 : Int32) < 0 ∧ ev_f h1 p2 102 (Int32.toNatClampNeg 0) = some w3 ∧ ∀ h4 : ev_AH, h4 = ev_s h1 p2 (Int32.toNatClampNeg 0) (.long r2) → P (.inl (some (.int 0))) h4) ∧ (∀ (E : String) (h9 : ev_AH), X E h9 → (E = "java/util/NoSuchElementException" ∧ P (.inl (some (.int 1))) h9))) : Mt l G M_W_packed [.ref p0, .int p1, .ref p2] h P := by
  refine Mt.ofH rfl ⟨_, _, rfl⟩ (Nat.le_of_ble_eq_true rfl) ?_
  show Ev l G M_W_packed 0 [(0, .ref p0), (1, .int p1), (2, .ref p2)] [] h 1 6 (ev_fin G M_W_packed P)
  refine e_aload_n fW_packed_0 rfl 2 rfl ?_
  refine e_iconst (v := 0) fW_packed_1 (by decide) ?_
  refine e_aload_n fW_packed_2 rfl 0 rfl ?_
  refine e_iload_n fW_packed_3 rfl 1 rfl ?_
  obtain ⟨gc, V⟩ := V
  obtain ⟨A, X, hm, V, VX⟩ := V
  refine e_callVl (uc' := 0) (us' := 0) (st := [.int 0, .ref p2]) fW_packed_4 wW_packed_4 rfl rfl gc hm (Nat.le_of_ble_eq_true rfl) (by decide) (by decide) (fun r2 h1 ga => ?_) (fun E h1 gx => ?_)
  · have V := V _ _ ga
    obtain ⟨w3, g0, gw3, V⟩ := V
    refine e_last fW_packed_7 g0 gw3 (fun h4 eh4 => ?_)
    have V := V h4 eh4
    refine e_goto (tgt := 14) fW_packed_8 (by decide) ?_
    refine e_iconst (v := 0) fW_packed_14 (by decide) ?_
    exact e_iret fW_packed_15 rfl V
  · rcases VX E _ gx with ⟨rfl, V⟩
    · refine e_catch [] (0, 8, 11, 20) [] rfl (fun z hz => by cases hz) (by decide) (by decide) hW_20 (by decide +kernel) (fun q => ?_)
      refine e_astore_n (ls' := [(3, .ref q), (0, .ref p0), (1, .int p1), (2, .ref p2)]) fW_packed_11 rfl (by decide) rfl ?_
      refine e_iconst (v := 1) fW_packed_12 (by decide) ?_
      exact e_iret fW_packed_13 rfl V
