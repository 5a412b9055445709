/-! WALKS: Order, Line -/
set_option maxRecDepth 20000 in
theorem vL_init {l : Launch} {G : ev_G} {h : ev_AH} {P : ev_Post} {p0 : Nat} {p1 : Int32} {p2 : Nat} {p3 : Int32} {p4 : Int32} {p5 : Int32} (V : ∃ w1 : Value, ev_f h p0 2 0 = some w1 ∧ ∀ h2 : ev_AH, h2 = ev_s h p0 0 (.int p1) → ∃ w3 : Value, ev_f h2 p0 2 2 = some w3 ∧ ∀ h4 : ev_AH, h4 = ev_s h2 p0 2 (.ref p2) → ∃ w5 : Value, ev_f h4 p0 2 1 = some w5 ∧ ∀ h6 : ev_AH, h6 = ev_s h4 p0 1 (.int p3) → ∃ w7 : Value, ev_f h6 p0 2 3 = some w7 ∧ ∀ h8 : ev_AH, h8 = ev_s h6 p0 3 (.int p4) → ∃ w9 : Value, ev_f h8 p0 2 4 = some w9 ∧ ∀ h10 : ev_AH, h10 = ev_s h8 p0 4 (.int p5) → ∃ w11 : Value, ev_f h10 p0 2 5 = some w11 ∧ ∀ h12 : ev_AH, h12 = ev_s h10 p0 5 (.int 0) → ∃ w13 : Value, ev_f h12 p0 2 6 = some w13 ∧ ∀ h14 : ev_AH, h14 = ev_s h12 p0 6 (.int 0) → ∃ w15 : Value, ev_f h14 p0 2 7 = some w15 ∧ ∀ h16 : ev_AH, h16 = ev_s h14 p0 7 (.int 0) → ∃ w17 : Value, ev_f h16 p0 2 8 = some w17 ∧ ∀ h18 : ev_AH, h18 = ev_s h16 p0 8 (.int (-1)) → ∃ w19 : Value, ev_f h18 p0 2 9 = some w19 ∧ ∀ h20 : ev_AH, h20 = ev_s h18 p0 9 (.int 1) → ∃ w21 : Value, ev_f h20 p0 2 10 = some w21 ∧ ∀ h22 : ev_AH, h22 = ev_s h20 p0 10 (.int 0) → P (.inl none) h22) : Mt l G M_L_init [.ref p0, .int p1, .ref p2, .int p3, .int p4, .int p5] h P := by
  refine Mt.of rfl rfl (Nat.le_of_ble_eq_true rfl) ?_
  show Ev l G M_L_init 0 [(0, .ref p0), (1, .int p1), (2, .ref p2), (3, .int p3), (4, .int p4), (5, .int p5)] [] h 0 0 (ev_fin G M_L_init P)
  refine e_aload_n fL_init_0 rfl 0 rfl ?_
  refine e_obj fL_init_1 oL_3.1 oL_3.2.1 oL_3.2.2 (Nat.le_of_ble_eq_true rfl) (Nat.le_of_ble_eq_true rfl) ?_
  refine e_aload_n fL_init_4 rfl 0 rfl ?_
  refine e_iload_n fL_init_5 rfl 1 rfl ?_
  obtain ⟨w1, gw1, V⟩ := V
  refine e_putF fL_init_6 pL_9 rfl gw1 rfl rfl (fun h2 eh2 => ?_)
  have V := V h2 eh2
  refine e_aload_n fL_init_9 rfl 0 rfl ?_
  refine e_aload_n fL_init_10 rfl 2 rfl ?_
  obtain ⟨w3, gw3, V⟩ := V
  refine e_put fL_init_11 pL_15 gw3 rfl rfl (fun h4 eh4 => ?_)
  have V := V h4 eh4
  refine e_aload_n fL_init_14 rfl 0 rfl ?_
  refine e_iload_n fL_init_15 rfl 3 rfl ?_
  obtain ⟨w5, gw5, V⟩ := V
  refine e_putF fL_init_16 pL_19 rfl gw5 rfl rfl (fun h6 eh6 => ?_)
  have V := V h6 eh6
  refine e_aload_n fL_init_19 rfl 0 rfl ?_
  refine e_iload fL_init_20 4 rfl ?_
  obtain ⟨w7, gw7, V⟩ := V
  refine e_put fL_init_22 pL_22 gw7 rfl rfl (fun h8 eh8 => ?_)
  have V := V h8 eh8
  refine e_aload_n fL_init_25 rfl 0 rfl ?_
  refine e_iload fL_init_26 5 rfl ?_
  obtain ⟨w9, gw9, V⟩ := V
  refine e_put fL_init_28 pL_25 gw9 rfl rfl (fun h10 eh10 => ?_)
  have V := V h10 eh10
  refine e_aload_n fL_init_31 rfl 0 rfl ?_
  refine e_iconst (v := 0) fL_init_32 (by decide) ?_
  obtain ⟨w11, gw11, V⟩ := V
  refine e_put fL_init_33 pL_28 gw11 rfl rfl (fun h12 eh12 => ?_)
  have V := V h12 eh12
  refine e_aload_n fL_init_36 rfl 0 rfl ?_
  refine e_iconst (v := 0) fL_init_37 (by decide) ?_
  obtain ⟨w13, gw13, V⟩ := V
  refine e_put fL_init_38 pL_31 gw13 rfl rfl (fun h14 eh14 => ?_)
  have V := V h14 eh14
  refine e_aload_n fL_init_41 rfl 0 rfl ?_
  refine e_iconst (v := 0) fL_init_42 (by decide) ?_
  obtain ⟨w15, gw15, V⟩ := V
  refine e_put fL_init_43 pL_34 gw15 rfl rfl (fun h16 eh16 => ?_)
  have V := V h16 eh16
  refine e_aload_n fL_init_46 rfl 0 rfl ?_
  refine e_iconst (v := -1) fL_init_47 (by decide) ?_
  obtain ⟨w17, gw17, V⟩ := V
  refine e_put fL_init_48 pL_37 gw17 rfl rfl (fun h18 eh18 => ?_)
  have V := V h18 eh18
  refine e_aload_n fL_init_51 rfl 0 rfl ?_
  refine e_iconst (v := 1) fL_init_52 (by decide) ?_
  obtain ⟨w19, gw19, V⟩ := V
  refine e_put fL_init_53 pL_40 gw19 rfl rfl (fun h20 eh20 => ?_)
  have V := V h20 eh20
  refine e_aload_n fL_init_56 rfl 0 rfl ?_
  refine e_iconst (v := 0) fL_init_57 (by decide) ?_
  obtain ⟨w21, gw21, V⟩ := V
  refine e_put fL_init_58 pL_44 gw21 rfl rfl (fun h22 eh22 => ?_)
  have V := V h22 eh22
  exact e_vret fL_init_61 rfl V
set_option maxRecDepth 20000 in
theorem vO_init {l : Launch} {G : ev_G} {h : ev_AH} {P : ev_Post} {p0 : Nat} {p1 : Int32} {p2 : Int32} {p3 : Int32} {p4 : Int32} {p5 : Int32} (V : ∃ w1 : Value, ev_f h p0 1 0 = some w1 ∧ ∀ h2 : ev_AH, h2 = ev_s h p0 0 (.int p1) → ∃ w3 : Value, ev_f h2 p0 1 1 = some w3 ∧ ∀ h4 : ev_AH, h4 = ev_s h2 p0 1 (.int p2) → ∃ w5 : Value, ev_f h4 p0 1 2 = some w5 ∧ ∀ h6 : ev_AH, h6 = ev_s h4 p0 2 (.int p3) → ∃ w7 : Value, ev_f h6 p0 1 3 = some w7 ∧ ∀ h8 : ev_AH, h8 = ev_s h6 p0 3 (.int p4) → ∃ w9 : Value, ev_f h8 p0 1 5 = some w9 ∧ ∀ h10 : ev_AH, h10 = ev_s h8 p0 5 (.int p5) → ∀ q11 : Nat, h10 q11 = none → ∀ h12 : ev_AH, h12 = ev_up h10 q11 (3, [.null, .int 0, .int 0]) → ∃ (A : ev_AH → Prop), Mt l G M_A_init [.ref q11] h12 (ev_pv A (fun _ _ => False)) ∧ (∀ h13 : ev_AH, A h13 → ∃ w14 : Value, ev_f h13 p0 1 4 = some w14 ∧ ∀ h15 : ev_AH, h15 = ev_s h13 p0 4 (.ref q11) → ∃ w16 : Value, ev_f h15 p0 1 6 = some w16 ∧ ∀ h17 : ev_AH, h17 = ev_s h15 p0 6 (.int 0) → ∃ w18 : Value, ev_f h17 p0 1 7 = some w18 ∧ ∀ h19 : ev_AH, h19 = ev_s h17 p0 7 (.int 0) → ∃ w20 : Value, ev_f h19 p0 1 8 = some w20 ∧ ∀ h21 : ev_AH, h21 = ev_s h19 p0 8 (.int 1) → ∃ w22 : Value, ev_f h21 p0 1 9 = some w22 ∧ ∀ h23 : ev_AH, h23 = ev_s h21 p0 9 (.int (-1)) → P (.inl none) h23)) : Mt l G M_O_init [.ref p0, .int p1, .int p2, .int p3, .int p4, .int p5] h P := by
  refine Mt.of rfl rfl (Nat.le_of_ble_eq_true rfl) ?_
  show Ev l G M_O_init 0 [(0, .ref p0), (1, .int p1), (2, .int p2), (3, .int p3), (4, .int p4), (5, .int p5)] [] h 1 3 (ev_fin G M_O_init P)
  refine e_aload_n fO_init_0 rfl 0 rfl ?_
  refine e_obj fO_init_1 oO_3.1 oO_3.2.1 oO_3.2.2 (Nat.le_of_ble_eq_true rfl) (Nat.le_of_ble_eq_true rfl) ?_
  refine e_aload_n fO_init_4 rfl 0 rfl ?_
  refine e_iload_n fO_init_5 rfl 1 rfl ?_
  obtain ⟨w1, gw1, V⟩ := V
  refine e_putF fO_init_6 pO_9 rfl gw1 rfl rfl (fun h2 eh2 => ?_)
  have V := V h2 eh2
  refine e_aload_n fO_init_9 rfl 0 rfl ?_
  refine e_iload_n fO_init_10 rfl 2 rfl ?_
  obtain ⟨w3, gw3, V⟩ := V
  refine e_putF fO_init_11 pO_15 rfl gw3 rfl rfl (fun h4 eh4 => ?_)
  have V := V h4 eh4
  refine e_aload_n fO_init_14 rfl 0 rfl ?_
  refine e_iload_n fO_init_15 rfl 3 rfl ?_
  obtain ⟨w5, gw5, V⟩ := V
  refine e_putF fO_init_16 pO_18 rfl gw5 rfl rfl (fun h6 eh6 => ?_)
  have V := V h6 eh6
  refine e_aload_n fO_init_19 rfl 0 rfl ?_
  refine e_iload fO_init_20 4 rfl ?_
  obtain ⟨w7, gw7, V⟩ := V
  refine e_putF fO_init_22 pO_21 rfl gw7 rfl rfl (fun h8 eh8 => ?_)
  have V := V h8 eh8
  refine e_aload_n fO_init_25 rfl 0 rfl ?_
  refine e_iload fO_init_26 5 rfl ?_
  obtain ⟨w9, gw9, V⟩ := V
  refine e_put fO_init_28 pO_24 gw9 rfl rfl (fun h10 eh10 => ?_)
  have V := V h10 eh10
  refine e_aload_n fO_init_31 rfl 0 rfl ?_
  refine e_new (uc' := 0) (us' := 0) fO_init_32 nO_27 rfl (by decide) (by decide) (fun q11 gq11 h12 eh12 => ?_)
  have V := V q11 gq11 h12 eh12
  refine e_dup fO_init_35 rfl ?_
  obtain ⟨A, hm, V⟩ := V
  refine e_callIv (uc' := 0) (us' := 0) (st := [.ref q11, .ref p0]) fO_init_36 wO_init_36 rfl rfl hm (Nat.le_of_ble_eq_true rfl) (by decide) (by decide) (fun h13 ga => ?_)
  have V := V _ ga
  obtain ⟨w14, gw14, V⟩ := V
  refine e_putF fO_init_39 pO_30 rfl gw14 rfl rfl (fun h15 eh15 => ?_)
  have V := V h15 eh15
  refine e_aload_n fO_init_42 rfl 0 rfl ?_
  refine e_iconst (v := 0) fO_init_43 (by decide) ?_
  obtain ⟨w16, gw16, V⟩ := V
  refine e_put fO_init_44 pO_34 gw16 rfl rfl (fun h17 eh17 => ?_)
  have V := V h17 eh17
  refine e_aload_n fO_init_47 rfl 0 rfl ?_
  refine e_iconst (v := 0) fO_init_48 (by decide) ?_
  obtain ⟨w18, gw18, V⟩ := V
  refine e_put fO_init_49 pO_37 gw18 rfl rfl (fun h19 eh19 => ?_)
  have V := V h19 eh19
  refine e_aload_n fO_init_52 rfl 0 rfl ?_
  refine e_iconst (v := 1) fO_init_53 (by decide) ?_
  obtain ⟨w20, gw20, V⟩ := V
  refine e_put fO_init_54 pO_40 gw20 rfl rfl (fun h21 eh21 => ?_)
  have V := V h21 eh21
  refine e_aload_n fO_init_57 rfl 0 rfl ?_
  refine e_iconst (v := -1) fO_init_58 (by decide) ?_
  obtain ⟨w22, gw22, V⟩ := V
  refine e_put fO_init_59 pO_43 gw22 rfl rfl (fun h23 eh23 => ?_)
  have V := V h23 eh23
  exact e_vret fO_init_62 rfl V
set_option maxRecDepth 20000 in
theorem vO_meetsNextPhase {l : Launch} {G : ev_G} {h : ev_AH} {P : ev_Post} {p0 : Nat} (V : ∃ v1 : Int32, ev_f h p0 1 6 = some (.int v1) ∧ ((v1 = 0 → (∃ fs : List Value, h p0 = some (1, fs)) ∧ ∃ (A : Int32 → ev_AH → Prop) (X : String → ev_AH → Prop), Mt l G M_O_hasLiveLine [.ref p0] h (ev_pi A X) ∧ (∀ (r3 : Int32) (h2 : ev_AH), A r3 h2 → ((r3 = 0 → P (.inl (some (.int 0))) h2) ∧ (¬ r3 = 0 → (∃ fs : List Value, h2 p0 = some (1, fs)) ∧ ∃ (A : Int32 → ev_AH → Prop) (X : String → ev_AH → Prop), Mt l G M_O_eachLiveLineIsReady [.ref p0] h2 (ev_pi A X) ∧ (∀ (r5 : Int32) (h4 : ev_AH), A r5 h4 → ((r5 = 0 → P (.inl (some (.int 0))) h4) ∧ (¬ r5 = 0 → P (.inl (some (.int 1))) h4))) ∧ (∀ (E : String) (h9 : ev_AH), X E h9 → P (.inr E) h9)))) ∧ (∀ (E : String) (h9 : ev_AH), X E h9 → P (.inr E) h9)) ∧ (v1 = 1 → ∃ v6 : Int32, ev_f h p0 1 6 = some (.int v6) ∧ ((v6 = 1 → P (.inl (some (.int 1))) h) ∧ (¬ v6 = 1 → ∃ v7 : Int32, ev_f h p0 1 6 = some (.int v7) ∧ ((¬ v7 = 3 → P (.inl (some (.int 0))) h) ∧ (v7 = 3 → P (.inl (some (.int 1))) h))))) ∧ (v1 = 2 → (∃ fs : List Value, h p0 = some (1, fs)) ∧ ∃ (A : Int32 → ev_AH → Prop) (X : String → ev_AH → Prop), Mt l G M_O_allHeldIsPicked [.ref p0] h (ev_pi A X) ∧ (∀ (r9 : Int32) (h8 : ev_AH), A r9 h8 → narrow .boolean (.int r9) = .int r9 ∧ P (.inl (some (.int r9))) h8) ∧ (∀ (E : String) (h9 : ev_AH), X E h9 → P (.inr E) h9)) ∧ (v1 = 3 → ∃ v10 : Int32, ev_f h p0 1 6 = some (.int v10) ∧ ((v10 = 1 → P (.inl (some (.int 1))) h) ∧ (¬ v10 = 1 → ∃ v11 : Int32, ev_f h p0 1 6 = some (.int v11) ∧ ((¬ v11 = 3 → P (.inl (some (.int 0))) h) ∧ (v11 = 3 → P (.inl (some (.int 1))) h))))) ∧ (v1 = 4 → (∃ fs : List Value, h p0 = some (1, fs)) ∧ ∃ (A : Int32 → ev_AH → Prop) (X : String → ev_AH → Prop), Mt l G M_O_noLineAwaitsBackorder [.ref p0] h (ev_pi A X) ∧ (∀ (r13 : Int32) (h12 : ev_AH), A r13 h12 → narrow .boolean (.int r13) = .int r13 ∧ P (.inl (some (.int r13))) h12) ∧ (∀ (E : String) (h9 : ev_AH), X E h9 → P (.inr E) h9)) ∧ ((¬ v1 = 0 ∧ ¬ v1 = 1 ∧ ¬ v1 = 2 ∧ ¬ v1 = 3 ∧ ¬ v1 = 4) → ∃ v14 : Int32, ev_f h p0 1 6 = some (.int v14) ∧ ((v14 = 1 → P (.inl (some (.int 1))) h) ∧ (¬ v14 = 1 → ∃ v15 : Int32, ev_f h p0 1 6 = some (.int v15) ∧ ((¬ v15 = 3 → P (.inl (some (.int 0))) h) ∧ (v15 = 3 → P (.inl (some (.int 1))) h))))))) : Mt l G M_O_meetsNextPhase [.ref p0] h P := by
  refine Mt.of rfl rfl (Nat.le_of_ble_eq_true rfl) ?_
  show Ev l G M_O_meetsNextPhase 0 [(0, .ref p0)] [] h 0 0 (ev_fin G M_O_meetsNextPhase P)
  refine e_aload_n fO_meetsNextPhase_0 rfl 0 rfl ?_
  obtain ⟨v1, gv1, V⟩ := V
  refine e_get fO_meetsNextPhase_1 kO_34 gv1 ?_
  by_cases z0 : v1 = 0
  · have V := V.1 z0
    refine e_tin (tgt := 40) fO_meetsNextPhase_4 (by rw [z0]; decide) (by rw [z0]; decide) (by rw [z0]; rfl) (by decide) ?_
    refine e_aload_n fO_meetsNextPhase_40 rfl 0 rfl ?_
    obtain ⟨gc, V⟩ := V
    obtain ⟨A, X, hm, V, VX⟩ := V
    refine e_callVi (uc' := 0) (us' := 0) (st := []) fO_meetsNextPhase_41 wO_meetsNextPhase_41 rfl rfl gc hm (Nat.le_of_ble_eq_true rfl) (by decide) (by decide) (fun r3 h2 ga => ?_) (fun E h2 gx => ?_)
    · have V := V _ _ ga
      refine e_if_eq (tgt := 58) fO_meetsNextPhase_44 (by decide) (fun z => ?_) (fun z => ?_)
      · have V := V.1 z
        refine e_iconst (v := 0) fO_meetsNextPhase_58 (by decide) ?_
        exact e_zret fO_meetsNextPhase_59 rfl rfl V
      · have V := V.2 z
        refine e_aload_n fO_meetsNextPhase_47 rfl 0 rfl ?_
        obtain ⟨gc, V⟩ := V
        obtain ⟨A, X, hm, V, VX⟩ := V
        refine e_callVi (uc' := 0) (us' := 0) (st := []) fO_meetsNextPhase_48 wO_meetsNextPhase_48 rfl rfl gc hm (Nat.le_of_ble_eq_true rfl) (by decide) (by decide) (fun r5 h4 ga => ?_) (fun E h4 gx => ?_)
        · have V := V _ _ ga
          refine e_if_eq (tgt := 58) fO_meetsNextPhase_51 (by decide) (fun z => ?_) (fun z => ?_)
          · have V := V.1 z
            refine e_iconst (v := 0) fO_meetsNextPhase_58 (by decide) ?_
            exact e_zret fO_meetsNextPhase_59 rfl rfl V
          · have V := V.2 z
            refine e_iconst (v := 1) fO_meetsNextPhase_54 (by decide) ?_
            refine e_goto (tgt := 59) fO_meetsNextPhase_55 (by decide) ?_
            exact e_zret fO_meetsNextPhase_59 rfl rfl V
        · exact e_out (by decide) (VX E _ gx)
    · exact e_out (by decide) (VX E _ gx)
  by_cases z1 : v1 = 1
  · have V := V.2.1 z1
    refine e_tin (tgt := 70) fO_meetsNextPhase_4 (by rw [z1]; decide) (by rw [z1]; decide) (by rw [z1]; rfl) (by decide) ?_
    refine e_aload_n fO_meetsNextPhase_70 rfl 0 rfl ?_
    obtain ⟨v6, gv6, V⟩ := V
    refine e_get fO_meetsNextPhase_71 kO_34 gv6 ?_
    refine e_iconst (v := 1) fO_meetsNextPhase_74 (by decide) ?_
    refine e_icmp_eq (tgt := 86) fO_meetsNextPhase_75 (by decide) (fun z => ?_) (fun z => ?_)
    · have V := V.1 z
      refine e_iconst (v := 1) fO_meetsNextPhase_86 (by decide) ?_
      refine e_goto (tgt := 91) fO_meetsNextPhase_87 (by decide) ?_
      exact e_zret fO_meetsNextPhase_91 rfl rfl V
    · have V := V.2 z
      refine e_aload_n fO_meetsNextPhase_78 rfl 0 rfl ?_
      obtain ⟨v7, gv7, V⟩ := V
      refine e_get fO_meetsNextPhase_79 kO_34 gv7 ?_
      refine e_iconst (v := 3) fO_meetsNextPhase_82 (by decide) ?_
      refine e_icmp_ne (tgt := 90) fO_meetsNextPhase_83 (by decide) (fun z => ?_) (fun z => ?_)
      · have V := V.1 z
        refine e_iconst (v := 0) fO_meetsNextPhase_90 (by decide) ?_
        exact e_zret fO_meetsNextPhase_91 rfl rfl V
      · have V := V.2 z
        refine e_iconst (v := 1) fO_meetsNextPhase_86 (by decide) ?_
        refine e_goto (tgt := 91) fO_meetsNextPhase_87 (by decide) ?_
        exact e_zret fO_meetsNextPhase_91 rfl rfl V
  by_cases z2 : v1 = 2
  · have V := V.2.2.1 z2
    refine e_tin (tgt := 60) fO_meetsNextPhase_4 (by rw [z2]; decide) (by rw [z2]; decide) (by rw [z2]; rfl) (by decide) ?_
    refine e_aload_n fO_meetsNextPhase_60 rfl 0 rfl ?_
    obtain ⟨gc, V⟩ := V
    obtain ⟨A, X, hm, V, VX⟩ := V
    refine e_callVi (uc' := 0) (us' := 0) (st := []) fO_meetsNextPhase_61 wO_meetsNextPhase_61 rfl rfl gc hm (Nat.le_of_ble_eq_true rfl) (by decide) (by decide) (fun r9 h8 ga => ?_) (fun E h8 gx => ?_)
    · have V := V _ _ ga
      exact e_zret fO_meetsNextPhase_64 rfl V.1 V.2
    · exact e_out (by decide) (VX E _ gx)
  by_cases z3 : v1 = 3
  · have V := V.2.2.2.1 z3
    refine e_tin (tgt := 70) fO_meetsNextPhase_4 (by rw [z3]; decide) (by rw [z3]; decide) (by rw [z3]; rfl) (by decide) ?_
    refine e_aload_n fO_meetsNextPhase_70 rfl 0 rfl ?_
    obtain ⟨v10, gv10, V⟩ := V
    refine e_get fO_meetsNextPhase_71 kO_34 gv10 ?_
    refine e_iconst (v := 1) fO_meetsNextPhase_74 (by decide) ?_
    refine e_icmp_eq (tgt := 86) fO_meetsNextPhase_75 (by decide) (fun z => ?_) (fun z => ?_)
    · have V := V.1 z
      refine e_iconst (v := 1) fO_meetsNextPhase_86 (by decide) ?_
      refine e_goto (tgt := 91) fO_meetsNextPhase_87 (by decide) ?_
      exact e_zret fO_meetsNextPhase_91 rfl rfl V
    · have V := V.2 z
      refine e_aload_n fO_meetsNextPhase_78 rfl 0 rfl ?_
      obtain ⟨v11, gv11, V⟩ := V
      refine e_get fO_meetsNextPhase_79 kO_34 gv11 ?_
      refine e_iconst (v := 3) fO_meetsNextPhase_82 (by decide) ?_
      refine e_icmp_ne (tgt := 90) fO_meetsNextPhase_83 (by decide) (fun z => ?_) (fun z => ?_)
      · have V := V.1 z
        refine e_iconst (v := 0) fO_meetsNextPhase_90 (by decide) ?_
        exact e_zret fO_meetsNextPhase_91 rfl rfl V
      · have V := V.2 z
        refine e_iconst (v := 1) fO_meetsNextPhase_86 (by decide) ?_
        refine e_goto (tgt := 91) fO_meetsNextPhase_87 (by decide) ?_
        exact e_zret fO_meetsNextPhase_91 rfl rfl V
  by_cases z4 : v1 = 4
  · have V := V.2.2.2.2.1 z4
    refine e_tin (tgt := 65) fO_meetsNextPhase_4 (by rw [z4]; decide) (by rw [z4]; decide) (by rw [z4]; rfl) (by decide) ?_
    refine e_aload_n fO_meetsNextPhase_65 rfl 0 rfl ?_
    obtain ⟨gc, V⟩ := V
    obtain ⟨A, X, hm, V, VX⟩ := V
    refine e_callVi (uc' := 0) (us' := 0) (st := []) fO_meetsNextPhase_66 wO_meetsNextPhase_66 rfl rfl gc hm (Nat.le_of_ble_eq_true rfl) (by decide) (by decide) (fun r13 h12 ga => ?_) (fun E h12 gx => ?_)
    · have V := V _ _ ga
      exact e_zret fO_meetsNextPhase_69 rfl V.1 V.2
    · exact e_out (by decide) (VX E _ gx)
  have V := V.2.2.2.2.2 ⟨z0, z1, z2, z3, z4⟩
  refine e_tout (tgt := 70) fO_meetsNextPhase_4 (ev_out (x := v1) 5 (fun k hk => by rcases (show k = 0 ∨ k = 1 ∨ k = 2 ∨ k = 3 ∨ k = 4 by omega) with rfl | rfl | rfl | rfl | rfl <;> first | exact z0 | exact z1 | exact z2 | exact z3 | exact z4)) (by decide) ?_
  refine e_aload_n fO_meetsNextPhase_70 rfl 0 rfl ?_
  obtain ⟨v14, gv14, V⟩ := V
  refine e_get fO_meetsNextPhase_71 kO_34 gv14 ?_
  refine e_iconst (v := 1) fO_meetsNextPhase_74 (by decide) ?_
  refine e_icmp_eq (tgt := 86) fO_meetsNextPhase_75 (by decide) (fun z => ?_) (fun z => ?_)
  · have V := V.1 z
    refine e_iconst (v := 1) fO_meetsNextPhase_86 (by decide) ?_
    refine e_goto (tgt := 91) fO_meetsNextPhase_87 (by decide) ?_
    exact e_zret fO_meetsNextPhase_91 rfl rfl V
  · have V := V.2 z
    refine e_aload_n fO_meetsNextPhase_78 rfl 0 rfl ?_
    obtain ⟨v15, gv15, V⟩ := V
    refine e_get fO_meetsNextPhase_79 kO_34 gv15 ?_
    refine e_iconst (v := 3) fO_meetsNextPhase_82 (by decide) ?_
    refine e_icmp_ne (tgt := 90) fO_meetsNextPhase_83 (by decide) (fun z => ?_) (fun z => ?_)
    · have V := V.1 z
      refine e_iconst (v := 0) fO_meetsNextPhase_90 (by decide) ?_
      exact e_zret fO_meetsNextPhase_91 rfl rfl V
    · have V := V.2 z
      refine e_iconst (v := 1) fO_meetsNextPhase_86 (by decide) ?_
      refine e_goto (tgt := 91) fO_meetsNextPhase_87 (by decide) ?_
      exact e_zret fO_meetsNextPhase_91 rfl rfl V
set_option maxRecDepth 20000 in
theorem vO_hasLiveLine_2 {l : Launch} {G : ev_G} {h : ev_AH} {P : ev_Post} {a0 : Nat} {a1 : Int32} (V : ∃ v1 : Nat, ev_f h a0 1 4 = some (.ref v1) ∧ ∃ v3 : Int32, ev_f h v1 3 1 = some (.int v3) ∧ (∃ fs : List Value, h v1 = some (3, fs)) ∧ ((v3 ≤ a1 → P (.inl (some (.int 0))) h) ∧ (¬ v3 ≤ a1 → ∃ v6 : Nat, ev_f h a0 1 4 = some (.ref v6) ∧ ∃ v8 : Nat, ev_get h v6 a1 v8 ∧ (∃ fs : List Value, h v6 = some (3, fs)) ∧ (∃ fs : List Value, h v8 = some (2, fs)) ∧ ∃ v11 : Int32, ev_f h v8 2 9 = some (.int v11) ∧ ((v11 = 0 → ∀ x12 : Int32, x12 = a1 + 1 → Ev l G M_O_hasLiveLine 2 [(0, .ref a0), (1, .int x12)] [] h 0 0 (ev_fin G M_O_hasLiveLine P)) ∧ (¬ v11 = 0 → P (.inl (some (.int 1))) h))))) : Ev l G M_O_hasLiveLine 2 [(0, .ref a0), (1, .int a1)] [] h 0 0 (ev_fin G M_O_hasLiveLine P) := by
  refine e_iload_n fO_hasLiveLine_2 rfl 1 rfl ?_
  refine e_aload_n fO_hasLiveLine_3 rfl 0 rfl ?_
  obtain ⟨v1, gv1, V⟩ := V
  refine e_get fO_hasLiveLine_4 kO_30 gv1 ?_
  obtain ⟨v3, gv3, V⟩ := V
  obtain ⟨gc, V⟩ := V
  refine e_callVi (uc' := 0) (us' := 0) (st := [.int a1]) fO_hasLiveLine_7 wO_hasLiveLine_7 rfl rfl gc (sp_A_size gv3) (Nat.le_of_ble_eq_true rfl) (by decide) (by decide) (fun r5 h4 ga => ?_) (fun E h4 gx => False.elim gx)
  obtain ⟨rfl, ge⟩ := ga
  replace ge := ge.symm
  subst ge
  refine e_icmp_ge (tgt := 38) fO_hasLiveLine_10 (by decide) (fun z => ?_) (fun z => ?_)
  · have V := V.1 z
    refine e_iconst (v := 0) fO_hasLiveLine_38 (by decide) ?_
    exact e_zret fO_hasLiveLine_39 rfl rfl V
  · have V := V.2 z
    refine e_aload_n fO_hasLiveLine_13 rfl 0 rfl ?_
    obtain ⟨v6, gv6, V⟩ := V
    refine e_get fO_hasLiveLine_14 kO_30 gv6 ?_
    refine e_iload_n fO_hasLiveLine_17 rfl 1 rfl ?_
    obtain ⟨v8, gv8, V⟩ := V
    obtain ⟨gc, V⟩ := V
    refine e_callVr (uc' := 0) (us' := 0) (st := []) fO_hasLiveLine_18 wO_hasLiveLine_18 rfl rfl gc (sp_A_get gv8) (Nat.le_of_ble_eq_true rfl) (by decide) (by decide) (fun r10 h9 ga => ?_) (fun E h9 gx => False.elim gx)
    obtain ⟨rfl, ge⟩ := ga
    replace ge := ge.symm
    subst ge
    obtain ⟨gc, V⟩ := V
    refine e_cast fO_hasLiveLine_21 cO_70 gc ?_
    obtain ⟨v11, gv11, V⟩ := V
    refine e_get fO_hasLiveLine_24 kO_72 gv11 ?_
    refine e_if_eq (tgt := 32) fO_hasLiveLine_27 (by decide) (fun z => ?_) (fun z => ?_)
    · have V := V.1 z
      obtain ⟨x12, ex12⟩ : ∃ z : Int32, z = a1 + 1 := ⟨_, rfl⟩
      have V := V x12 ex12
      refine e_iinc (v := x12) (k := 1) (ls' := [(1, .int x12), (0, .ref a0)]) fO_hasLiveLine_32 rfl (by rw [ex12]; rfl) (by decide) rfl ?_
      refine e_goto (tgt := 2) fO_hasLiveLine_35 (by decide) ?_
      exact Ev.loc [1, 0] rfl V
    · have V := V.2 z
      refine e_iconst (v := 1) fO_hasLiveLine_30 (by decide) ?_
      exact e_zret fO_hasLiveLine_31 rfl rfl V
set_option maxRecDepth 20000 in
theorem vO_hasLiveLine {l : Launch} {G : ev_G} {h : ev_AH} {P : ev_Post} {p0 : Nat} (V : Ev l G M_O_hasLiveLine 2 [(0, .ref p0), (1, .int 0)] [] h 0 0 (ev_fin G M_O_hasLiveLine P)) : Mt l G M_O_hasLiveLine [.ref p0] h P := by
  refine Mt.of rfl rfl (Nat.le_of_ble_eq_true rfl) ?_
  show Ev l G M_O_hasLiveLine 0 [(0, .ref p0)] [] h 0 0 (ev_fin G M_O_hasLiveLine P)
  refine e_iconst (v := 0) fO_hasLiveLine_0 (by decide) ?_
  refine e_istore_n (ls' := [(1, .int 0), (0, .ref p0)]) fO_hasLiveLine_1 rfl (by decide) rfl ?_
  exact Ev.loc [1, 0] rfl V
set_option maxRecDepth 20000 in
theorem vO_eachLiveLineIsReady_2 {l : Launch} {G : ev_G} {h : ev_AH} {P : ev_Post} {a0 : Nat} {a1 : Int32} (V : ∃ v1 : Nat, ev_f h a0 1 4 = some (.ref v1) ∧ ∃ v3 : Int32, ev_f h v1 3 1 = some (.int v3) ∧ (∃ fs : List Value, h v1 = some (3, fs)) ∧ ((v3 ≤ a1 → P (.inl (some (.int 1))) h) ∧ (¬ v3 ≤ a1 → ∃ v6 : Nat, ev_f h a0 1 4 = some (.ref v6) ∧ ∃ v8 : Nat, ev_get h v6 a1 v8 ∧ (∃ fs : List Value, h v6 = some (3, fs)) ∧ (∃ fs : List Value, h v8 = some (2, fs)) ∧ ∃ v11 : Int32, ev_f h v8 2 9 = some (.int v11) ∧ ((v11 = 0 → ∀ x12 : Int32, x12 = a1 + 1 → Ev l G M_O_eachLiveLineIsReady 2 [(0, .ref a0), (1, .int x12)] [] h 0 0 (ev_fin G M_O_eachLiveLineIsReady P)) ∧ (¬ v11 = 0 → ∃ v14 : Int32, ev_f h v8 2 3 = some (.int v14) ∧ ∃ v15 : Int32, ev_f h v8 2 4 = some (.int v15) ∧ ∃ v16 : Int32, ev_f h v8 2 5 = some (.int v16) ∧ (∃ fs : List Value, h v8 = some (2, fs)) ∧ ((¬ (ev_b (v16 = v14 ∨ (¬ (v15 &&& 1) = 0 ∧ 0 < v16) ∨ ¬ (v15 &&& 4) = 0)) = 0 → ∀ x19 : Int32, x19 = a1 + 1 → Ev l G M_O_eachLiveLineIsReady 2 [(0, .ref a0), (1, .int x19)] [] h 0 0 (ev_fin G M_O_eachLiveLineIsReady P)) ∧ ((ev_b (v16 = v14 ∨ (¬ (v15 &&& 1) = 0 ∧ 0 < v16) ∨ ¬ (v15 &&& 4) = 0)) = 0 → P (.inl (some (.int 0))) h))))))) : Ev l G M_O_eachLiveLineIsReady 2 [(0, .ref a0), (1, .int a1)] [] h 0 0 (ev_fin G M_O_eachLiveLineIsReady P) := by
  refine e_iload_n fO_eachLiveLineIsReady_2 rfl 1 rfl ?_
  refine e_aload_n fO_eachLiveLineIsReady_3 rfl 0 rfl ?_
  obtain ⟨v1, gv1, V⟩ := V
  refine e_get fO_eachLiveLineIsReady_4 kO_30 gv1 ?_
  obtain ⟨v3, gv3, V⟩ := V
  obtain ⟨gc, V⟩ := V
  refine e_callVi (uc' := 0) (us' := 0) (st := [.int a1]) fO_eachLiveLineIsReady_7 wO_eachLiveLineIsReady_7 rfl rfl gc (sp_A_size gv3) (Nat.le_of_ble_eq_true rfl) (by decide) (by decide) (fun r5 h4 ga => ?_) (fun E h4 gx => False.elim gx)
  obtain ⟨rfl, ge⟩ := ga
  replace ge := ge.symm
  subst ge
  refine e_icmp_ge (tgt := 47) fO_eachLiveLineIsReady_10 (by decide) (fun z => ?_) (fun z => ?_)
  · have V := V.1 z
    refine e_iconst (v := 1) fO_eachLiveLineIsReady_47 (by decide) ?_
    exact e_zret fO_eachLiveLineIsReady_48 rfl rfl V
  · have V := V.2 z
    refine e_aload_n fO_eachLiveLineIsReady_13 rfl 0 rfl ?_
    obtain ⟨v6, gv6, V⟩ := V
    refine e_get fO_eachLiveLineIsReady_14 kO_30 gv6 ?_
    refine e_iload_n fO_eachLiveLineIsReady_17 rfl 1 rfl ?_
    obtain ⟨v8, gv8, V⟩ := V
    obtain ⟨gc, V⟩ := V
    refine e_callVr (uc' := 0) (us' := 0) (st := []) fO_eachLiveLineIsReady_18 wO_eachLiveLineIsReady_18 rfl rfl gc (sp_A_get gv8) (Nat.le_of_ble_eq_true rfl) (by decide) (by decide) (fun r10 h9 ga => ?_) (fun E h9 gx => False.elim gx)
    obtain ⟨rfl, ge⟩ := ga
    replace ge := ge.symm
    subst ge
    obtain ⟨gc, V⟩ := V
    refine e_cast fO_eachLiveLineIsReady_21 cO_70 gc ?_
    refine e_astore_n (ls' := [(2, .ref v8), (0, .ref a0), (1, .int a1)]) fO_eachLiveLineIsReady_24 rfl (by decide) rfl ?_
    refine e_aload_n fO_eachLiveLineIsReady_25 rfl 0 rfl ?_
    obtain ⟨v11, gv11, V⟩ := V
    refine e_get fO_eachLiveLineIsReady_26 kO_72 gv11 ?_
    refine e_if_eq (tgt := 41) fO_eachLiveLineIsReady_29 (by decide) (fun z => ?_) (fun z => ?_)
    · have V := V.1 z
      obtain ⟨x12, ex12⟩ : ∃ z : Int32, z = a1 + 1 := ⟨_, rfl⟩
      have V := V x12 ex12
      refine e_iinc (v := x12) (k := 2) (ls' := [(1, .int x12), (2, .ref v8), (0, .ref a0)]) fO_eachLiveLineIsReady_41 rfl (by rw [ex12]; rfl) (by decide) rfl ?_
      refine e_goto (tgt := 2) fO_eachLiveLineIsReady_44 (by decide) ?_
      exact Ev.loc [2, 0] rfl V
    · have V := V.2 z
      refine e_aload_n fO_eachLiveLineIsReady_32 rfl 0 rfl ?_
      obtain ⟨v14, gv14, V⟩ := V
      obtain ⟨v15, gv15, V⟩ := V
      obtain ⟨v16, gv16, V⟩ := V
      obtain ⟨gc, V⟩ := V
      refine e_callVi (uc' := 0) (us' := 0) (st := []) fO_eachLiveLineIsReady_33 wO_eachLiveLineIsReady_33 rfl rfl gc (sp_L_isReady gv14 gv15 gv16) (Nat.le_of_ble_eq_true rfl) (by decide) (by decide) (fun r18 h17 ga => ?_) (fun E h17 gx => False.elim gx)
      obtain ⟨rfl, ge⟩ := ga
      replace ge := ge.symm
      subst ge
      refine e_if_ne (tgt := 41) fO_eachLiveLineIsReady_36 (by decide) (fun z => ?_) (fun z => ?_)
      · have V := V.1 z
        obtain ⟨x19, ex19⟩ : ∃ z : Int32, z = a1 + 1 := ⟨_, rfl⟩
        have V := V x19 ex19
        refine e_iinc (v := x19) (k := 2) (ls' := [(1, .int x19), (2, .ref v8), (0, .ref a0)]) fO_eachLiveLineIsReady_41 rfl (by rw [ex19]; rfl) (by decide) rfl ?_
        refine e_goto (tgt := 2) fO_eachLiveLineIsReady_44 (by decide) ?_
        exact Ev.loc [2, 0] rfl V
      · have V := V.2 z
        refine e_iconst (v := 0) fO_eachLiveLineIsReady_39 (by decide) ?_
        exact e_zret fO_eachLiveLineIsReady_40 rfl rfl V
set_option maxRecDepth 20000 in
theorem vO_eachLiveLineIsReady {l : Launch} {G : ev_G} {h : ev_AH} {P : ev_Post} {p0 : Nat} (V : Ev l G M_O_eachLiveLineIsReady 2 [(0, .ref p0), (1, .int 0)] [] h 0 0 (ev_fin G M_O_eachLiveLineIsReady P)) : Mt l G M_O_eachLiveLineIsReady [.ref p0] h P := by
  refine Mt.of rfl rfl (Nat.le_of_ble_eq_true rfl) ?_
  show Ev l G M_O_eachLiveLineIsReady 0 [(0, .ref p0)] [] h 0 0 (ev_fin G M_O_eachLiveLineIsReady P)
  refine e_iconst (v := 0) fO_eachLiveLineIsReady_0 (by decide) ?_
  refine e_istore_n (ls' := [(1, .int 0), (0, .ref p0)]) fO_eachLiveLineIsReady_1 rfl (by decide) rfl ?_
  exact Ev.loc [1, 0] rfl V
set_option maxRecDepth 20000 in
theorem vO_allHeldIsPicked_2 {l : Launch} {G : ev_G} {h : ev_AH} {P : ev_Post} {a0 : Nat} {a1 : Int32} (V : ∃ v1 : Nat, ev_f h a0 1 4 = some (.ref v1) ∧ ∃ v3 : Int32, ev_f h v1 3 1 = some (.int v3) ∧ (∃ fs : List Value, h v1 = some (3, fs)) ∧ ((v3 ≤ a1 → P (.inl (some (.int 1))) h) ∧ (¬ v3 ≤ a1 → ∃ v6 : Nat, ev_f h a0 1 4 = some (.ref v6) ∧ ∃ v8 : Nat, ev_get h v6 a1 v8 ∧ (∃ fs : List Value, h v6 = some (3, fs)) ∧ (∃ fs : List Value, h v8 = some (2, fs)) ∧ ∃ v11 : Int32, ev_f h v8 2 9 = some (.int v11) ∧ ((v11 = 0 → ∀ x12 : Int32, x12 = a1 + 1 → Ev l G M_O_allHeldIsPicked 2 [(0, .ref a0), (1, .int x12)] [] h 0 0 (ev_fin G M_O_allHeldIsPicked P)) ∧ (¬ v11 = 0 → ∃ v13 : Int32, ev_f h v8 2 6 = some (.int v13) ∧ ∃ v14 : Int32, ev_f h v8 2 5 = some (.int v14) ∧ ((v13 = v14 → ∀ x15 : Int32, x15 = a1 + 1 → Ev l G M_O_allHeldIsPicked 2 [(0, .ref a0), (1, .int x15)] [] h 0 0 (ev_fin G M_O_allHeldIsPicked P)) ∧ (¬ v13 = v14 → P (.inl (some (.int 0))) h))))))) : Ev l G M_O_allHeldIsPicked 2 [(0, .ref a0), (1, .int a1)] [] h 0 0 (ev_fin G M_O_allHeldIsPicked P) := by
  refine e_iload_n fO_allHeldIsPicked_2 rfl 1 rfl ?_
  refine e_aload_n fO_allHeldIsPicked_3 rfl 0 rfl ?_
  obtain ⟨v1, gv1, V⟩ := V
  refine e_get fO_allHeldIsPicked_4 kO_30 gv1 ?_
  obtain ⟨v3, gv3, V⟩ := V
  obtain ⟨gc, V⟩ := V
  refine e_callVi (uc' := 0) (us' := 0) (st := [.int a1]) fO_allHeldIsPicked_7 wO_allHeldIsPicked_7 rfl rfl gc (sp_A_size gv3) (Nat.le_of_ble_eq_true rfl) (by decide) (by decide) (fun r5 h4 ga => ?_) (fun E h4 gx => False.elim gx)
  obtain ⟨rfl, ge⟩ := ga
  replace ge := ge.symm
  subst ge
  refine e_icmp_ge (tgt := 51) fO_allHeldIsPicked_10 (by decide) (fun z => ?_) (fun z => ?_)
  · have V := V.1 z
    refine e_iconst (v := 1) fO_allHeldIsPicked_51 (by decide) ?_
    exact e_zret fO_allHeldIsPicked_52 rfl rfl V
  · have V := V.2 z
    refine e_aload_n fO_allHeldIsPicked_13 rfl 0 rfl ?_
    obtain ⟨v6, gv6, V⟩ := V
    refine e_get fO_allHeldIsPicked_14 kO_30 gv6 ?_
    refine e_iload_n fO_allHeldIsPicked_17 rfl 1 rfl ?_
    obtain ⟨v8, gv8, V⟩ := V
    obtain ⟨gc, V⟩ := V
    refine e_callVr (uc' := 0) (us' := 0) (st := []) fO_allHeldIsPicked_18 wO_allHeldIsPicked_18 rfl rfl gc (sp_A_get gv8) (Nat.le_of_ble_eq_true rfl) (by decide) (by decide) (fun r10 h9 ga => ?_) (fun E h9 gx => False.elim gx)
    obtain ⟨rfl, ge⟩ := ga
    replace ge := ge.symm
    subst ge
    obtain ⟨gc, V⟩ := V
    refine e_cast fO_allHeldIsPicked_21 cO_70 gc ?_
    refine e_astore_n (ls' := [(2, .ref v8), (0, .ref a0), (1, .int a1)]) fO_allHeldIsPicked_24 rfl (by decide) rfl ?_
    refine e_aload_n fO_allHeldIsPicked_25 rfl 0 rfl ?_
    obtain ⟨v11, gv11, V⟩ := V
    refine e_get fO_allHeldIsPicked_26 kO_72 gv11 ?_
    refine e_if_eq (tgt := 45) fO_allHeldIsPicked_29 (by decide) (fun z => ?_) (fun z => ?_)
    · have V := V.1 z
      obtain ⟨x12, ex12⟩ : ∃ z : Int32, z = a1 + 1 := ⟨_, rfl⟩
      have V := V x12 ex12
      refine e_iinc (v := x12) (k := 2) (ls' := [(1, .int x12), (2, .ref v8), (0, .ref a0)]) fO_allHeldIsPicked_45 rfl (by rw [ex12]; rfl) (by decide) rfl ?_
      refine e_goto (tgt := 2) fO_allHeldIsPicked_48 (by decide) ?_
      exact Ev.loc [2, 0] rfl V
    · have V := V.2 z
      refine e_aload_n fO_allHeldIsPicked_32 rfl 0 rfl ?_
      obtain ⟨v13, gv13, V⟩ := V
      refine e_get fO_allHeldIsPicked_33 kO_79 gv13 ?_
      refine e_aload_n fO_allHeldIsPicked_36 rfl 0 rfl ?_
      obtain ⟨v14, gv14, V⟩ := V
      refine e_get fO_allHeldIsPicked_37 kO_82 gv14 ?_
      refine e_icmp_eq (tgt := 45) fO_allHeldIsPicked_40 (by decide) (fun z => ?_) (fun z => ?_)
      · have V := V.1 z
        obtain ⟨x15, ex15⟩ : ∃ z : Int32, z = a1 + 1 := ⟨_, rfl⟩
        have V := V x15 ex15
        refine e_iinc (v := x15) (k := 2) (ls' := [(1, .int x15), (2, .ref v8), (0, .ref a0)]) fO_allHeldIsPicked_45 rfl (by rw [ex15]; rfl) (by decide) rfl ?_
        refine e_goto (tgt := 2) fO_allHeldIsPicked_48 (by decide) ?_
        exact Ev.loc [2, 0] rfl V
      · have V := V.2 z
        refine e_iconst (v := 0) fO_allHeldIsPicked_43 (by decide) ?_
        exact e_zret fO_allHeldIsPicked_44 rfl rfl V
set_option maxRecDepth 20000 in
theorem vO_allHeldIsPicked {l : Launch} {G : ev_G} {h : ev_AH} {P : ev_Post} {p0 : Nat} (V : Ev l G M_O_allHeldIsPicked 2 [(0, .ref p0), (1, .int 0)] [] h 0 0 (ev_fin G M_O_allHeldIsPicked P)) : Mt l G M_O_allHeldIsPicked [.ref p0] h P := by
  refine Mt.of rfl rfl (Nat.le_of_ble_eq_true rfl) ?_
  show Ev l G M_O_allHeldIsPicked 0 [(0, .ref p0)] [] h 0 0 (ev_fin G M_O_allHeldIsPicked P)
  refine e_iconst (v := 0) fO_allHeldIsPicked_0 (by decide) ?_
  refine e_istore_n (ls' := [(1, .int 0), (0, .ref p0)]) fO_allHeldIsPicked_1 rfl (by decide) rfl ?_
  exact Ev.loc [1, 0] rfl V
set_option maxRecDepth 20000 in
theorem vO_noLineAwaitsBackorder_2 {l : Launch} {G : ev_G} {h : ev_AH} {P : ev_Post} {a0 : Nat} {a1 : Int32} (V : ∃ v1 : Nat, ev_f h a0 1 4 = some (.ref v1) ∧ ∃ v3 : Int32, ev_f h v1 3 1 = some (.int v3) ∧ (∃ fs : List Value, h v1 = some (3, fs)) ∧ ((v3 ≤ a1 → P (.inl (some (.int 1))) h) ∧ (¬ v3 ≤ a1 → ∃ v6 : Nat, ev_f h a0 1 4 = some (.ref v6) ∧ ∃ v8 : Nat, ev_get h v6 a1 v8 ∧ (∃ fs : List Value, h v6 = some (3, fs)) ∧ (∃ fs : List Value, h v8 = some (2, fs)) ∧ ∃ v12 : Int32, ev_f h v8 2 3 = some (.int v12) ∧ ∃ v13 : Int32, ev_f h v8 2 4 = some (.int v13) ∧ ∃ v14 : Int32, ev_f h v8 2 7 = some (.int v14) ∧ ∃ v15 : Int32, ev_f h v8 2 9 = some (.int v15) ∧ ∃ v16 : Int32, ev_f h v8 2 10 = some (.int v16) ∧ (∃ fs : List Value, h v8 = some (2, fs)) ∧ (((ev_b (¬ v15 = 0 ∧ ¬ (v13 &&& 4) = 0 ∧ 0 < v12 - v14 ∧ v16 = 0)) = 0 → ∀ x19 : Int32, x19 = a1 + 1 → Ev l G M_O_noLineAwaitsBackorder 2 [(0, .ref a0), (1, .int x19)] [] h 0 0 (ev_fin G M_O_noLineAwaitsBackorder P)) ∧ (¬ (ev_b (¬ v15 = 0 ∧ ¬ (v13 &&& 4) = 0 ∧ 0 < v12 - v14 ∧ v16 = 0)) = 0 → P (.inl (some (.int 0))) h))))) : Ev l G M_O_noLineAwaitsBackorder 2 [(0, .ref a0), (1, .int a1)] [] h 0 0 (ev_fin G M_O_noLineAwaitsBackorder P) := by
  refine e_iload_n fO_noLineAwaitsBackorder_2 rfl 1 rfl ?_
  refine e_aload_n fO_noLineAwaitsBackorder_3 rfl 0 rfl ?_
  obtain ⟨v1, gv1, V⟩ := V
  refine e_get fO_noLineAwaitsBackorder_4 kO_30 gv1 ?_
  obtain ⟨v3, gv3, V⟩ := V
  obtain ⟨gc, V⟩ := V
  refine e_callVi (uc' := 0) (us' := 0) (st := [.int a1]) fO_noLineAwaitsBackorder_7 wO_noLineAwaitsBackorder_7 rfl rfl gc (sp_A_size gv3) (Nat.le_of_ble_eq_true rfl) (by decide) (by decide) (fun r5 h4 ga => ?_) (fun E h4 gx => False.elim gx)
  obtain ⟨rfl, ge⟩ := ga
  replace ge := ge.symm
  subst ge
  refine e_icmp_ge (tgt := 38) fO_noLineAwaitsBackorder_10 (by decide) (fun z => ?_) (fun z => ?_)
  · have V := V.1 z
    refine e_iconst (v := 1) fO_noLineAwaitsBackorder_38 (by decide) ?_
    exact e_zret fO_noLineAwaitsBackorder_39 rfl rfl V
  · have V := V.2 z
    refine e_aload_n fO_noLineAwaitsBackorder_13 rfl 0 rfl ?_
    obtain ⟨v6, gv6, V⟩ := V
    refine e_get fO_noLineAwaitsBackorder_14 kO_30 gv6 ?_
    refine e_iload_n fO_noLineAwaitsBackorder_17 rfl 1 rfl ?_
    obtain ⟨v8, gv8, V⟩ := V
    obtain ⟨gc, V⟩ := V
    refine e_callVr (uc' := 0) (us' := 0) (st := []) fO_noLineAwaitsBackorder_18 wO_noLineAwaitsBackorder_18 rfl rfl gc (sp_A_get gv8) (Nat.le_of_ble_eq_true rfl) (by decide) (by decide) (fun r10 h9 ga => ?_) (fun E h9 gx => False.elim gx)
    obtain ⟨rfl, ge⟩ := ga
    replace ge := ge.symm
    subst ge
    obtain ⟨gc, V⟩ := V
    refine e_cast fO_noLineAwaitsBackorder_21 cO_70 gc ?_
    obtain ⟨v12, gv12, V⟩ := V
    obtain ⟨v13, gv13, V⟩ := V
    obtain ⟨v14, gv14, V⟩ := V
    obtain ⟨v15, gv15, V⟩ := V
    obtain ⟨v16, gv16, V⟩ := V
    obtain ⟨gc, V⟩ := V
    refine e_callVi (uc' := 0) (us' := 0) (st := []) fO_noLineAwaitsBackorder_24 wO_noLineAwaitsBackorder_24 rfl rfl gc (sp_L_awaitsBackorder gv12 gv13 gv14 gv15 gv16) (Nat.le_of_ble_eq_true rfl) (by decide) (by decide) (fun r18 h17 ga => ?_) (fun E h17 gx => False.elim gx)
    obtain ⟨rfl, ge⟩ := ga
    replace ge := ge.symm
    subst ge
    refine e_if_eq (tgt := 32) fO_noLineAwaitsBackorder_27 (by decide) (fun z => ?_) (fun z => ?_)
    · have V := V.1 z
      obtain ⟨x19, ex19⟩ : ∃ z : Int32, z = a1 + 1 := ⟨_, rfl⟩
      have V := V x19 ex19
      refine e_iinc (v := x19) (k := 1) (ls' := [(1, .int x19), (0, .ref a0)]) fO_noLineAwaitsBackorder_32 rfl (by rw [ex19]; rfl) (by decide) rfl ?_
      refine e_goto (tgt := 2) fO_noLineAwaitsBackorder_35 (by decide) ?_
      exact Ev.loc [1, 0] rfl V
    · have V := V.2 z
      refine e_iconst (v := 0) fO_noLineAwaitsBackorder_30 (by decide) ?_
      exact e_zret fO_noLineAwaitsBackorder_31 rfl rfl V
set_option maxRecDepth 20000 in
theorem vO_noLineAwaitsBackorder {l : Launch} {G : ev_G} {h : ev_AH} {P : ev_Post} {p0 : Nat} (V : Ev l G M_O_noLineAwaitsBackorder 2 [(0, .ref p0), (1, .int 0)] [] h 0 0 (ev_fin G M_O_noLineAwaitsBackorder P)) : Mt l G M_O_noLineAwaitsBackorder [.ref p0] h P := by
  refine Mt.of rfl rfl (Nat.le_of_ble_eq_true rfl) ?_
  show Ev l G M_O_noLineAwaitsBackorder 0 [(0, .ref p0)] [] h 0 0 (ev_fin G M_O_noLineAwaitsBackorder P)
  refine e_iconst (v := 0) fO_noLineAwaitsBackorder_0 (by decide) ?_
  refine e_istore_n (ls' := [(1, .int 0), (0, .ref p0)]) fO_noLineAwaitsBackorder_1 rfl (by decide) rfl ?_
  exact Ev.loc [1, 0] rfl V
set_option maxRecDepth 20000 in
theorem vO_shipAllPicked_2 {l : Launch} {G : ev_G} {h : ev_AH} {P : ev_Post} {a0 : Nat} {a1 : Int32} (V : ∃ v1 : Nat, ev_f h a0 1 4 = some (.ref v1) ∧ ∃ v3 : Int32, ev_f h v1 3 1 = some (.int v3) ∧ (∃ fs : List Value, h v1 = some (3, fs)) ∧ ((v3 ≤ a1 → P (.inl none) h) ∧ (¬ v3 ≤ a1 → ∃ v6 : Nat, ev_f h a0 1 4 = some (.ref v6) ∧ ∃ v8 : Nat, ev_get h v6 a1 v8 ∧ (∃ fs : List Value, h v6 = some (3, fs)) ∧ (∃ fs : List Value, h v8 = some (2, fs)) ∧ ∃ v11 : Int32, ev_f h v8 2 6 = some (.int v11) ∧ ∃ w12 : Value, ev_f h v8 2 7 = some w12 ∧ ∀ h13 : ev_AH, h13 = ev_s h v8 7 (.int v11) → ∀ x14 : Int32, x14 = a1 + 1 → Ev l G M_O_shipAllPicked 2 [(0, .ref a0), (1, .int x14)] [] h13 0 0 (ev_fin G M_O_shipAllPicked P)))) : Ev l G M_O_shipAllPicked 2 [(0, .ref a0), (1, .int a1)] [] h 0 0 (ev_fin G M_O_shipAllPicked P) := by
  refine e_iload_n fO_shipAllPicked_2 rfl 1 rfl ?_
  refine e_aload_n fO_shipAllPicked_3 rfl 0 rfl ?_
  obtain ⟨v1, gv1, V⟩ := V
  refine e_get fO_shipAllPicked_4 kO_30 gv1 ?_
  obtain ⟨v3, gv3, V⟩ := V
  obtain ⟨gc, V⟩ := V
  refine e_callVi (uc' := 0) (us' := 0) (st := [.int a1]) fO_shipAllPicked_7 wO_shipAllPicked_7 rfl rfl gc (sp_A_size gv3) (Nat.le_of_ble_eq_true rfl) (by decide) (by decide) (fun r5 h4 ga => ?_) (fun E h4 gx => False.elim gx)
  obtain ⟨rfl, ge⟩ := ga
  replace ge := ge.symm
  subst ge
  refine e_icmp_ge (tgt := 39) fO_shipAllPicked_10 (by decide) (fun z => ?_) (fun z => ?_)
  · have V := V.1 z
    exact e_vret fO_shipAllPicked_39 rfl V
  · have V := V.2 z
    refine e_aload_n fO_shipAllPicked_13 rfl 0 rfl ?_
    obtain ⟨v6, gv6, V⟩ := V
    refine e_get fO_shipAllPicked_14 kO_30 gv6 ?_
    refine e_iload_n fO_shipAllPicked_17 rfl 1 rfl ?_
    obtain ⟨v8, gv8, V⟩ := V
    obtain ⟨gc, V⟩ := V
    refine e_callVr (uc' := 0) (us' := 0) (st := []) fO_shipAllPicked_18 wO_shipAllPicked_18 rfl rfl gc (sp_A_get gv8) (Nat.le_of_ble_eq_true rfl) (by decide) (by decide) (fun r10 h9 ga => ?_) (fun E h9 gx => False.elim gx)
    obtain ⟨rfl, ge⟩ := ga
    replace ge := ge.symm
    subst ge
    obtain ⟨gc, V⟩ := V
    refine e_cast fO_shipAllPicked_21 cO_70 gc ?_
    refine e_astore_n (ls' := [(2, .ref v8), (0, .ref a0), (1, .int a1)]) fO_shipAllPicked_24 rfl (by decide) rfl ?_
    refine e_aload_n fO_shipAllPicked_25 rfl 0 rfl ?_
    refine e_aload_n fO_shipAllPicked_26 rfl 0 rfl ?_
    obtain ⟨v11, gv11, V⟩ := V
    refine e_get fO_shipAllPicked_27 kO_79 gv11 ?_
    obtain ⟨w12, gw12, V⟩ := V
    refine e_put fO_shipAllPicked_30 pO_88 gw12 rfl rfl (fun h13 eh13 => ?_)
    have V := V h13 eh13
    obtain ⟨x14, ex14⟩ : ∃ z : Int32, z = a1 + 1 := ⟨_, rfl⟩
    have V := V x14 ex14
    refine e_iinc (v := x14) (k := 2) (ls' := [(1, .int x14), (2, .ref v8), (0, .ref a0)]) fO_shipAllPicked_33 rfl (by rw [ex14]; rfl) (by decide) rfl ?_
    refine e_goto (tgt := 2) fO_shipAllPicked_36 (by decide) ?_
    exact Ev.loc [2, 0] rfl V
set_option maxRecDepth 20000 in
theorem vO_shipAllPicked {l : Launch} {G : ev_G} {h : ev_AH} {P : ev_Post} {p0 : Nat} (V : Ev l G M_O_shipAllPicked 2 [(0, .ref p0), (1, .int 0)] [] h 0 0 (ev_fin G M_O_shipAllPicked P)) : Mt l G M_O_shipAllPicked [.ref p0] h P := by
  refine Mt.of rfl rfl (Nat.le_of_ble_eq_true rfl) ?_
  show Ev l G M_O_shipAllPicked 0 [(0, .ref p0)] [] h 0 0 (ev_fin G M_O_shipAllPicked P)
  refine e_iconst (v := 0) fO_shipAllPicked_0 (by decide) ?_
  refine e_istore_n (ls' := [(1, .int 0), (0, .ref p0)]) fO_shipAllPicked_1 rfl (by decide) rfl ?_
  exact Ev.loc [1, 0] rfl V
set_option maxRecDepth 20000 in
theorem vO_takeLinesOf_10 {l : Launch} {G : ev_G} {h : ev_AH} {P : ev_Post} {a0 : Nat} {a1 : Nat} {a2 : Int32} {a3 : Int32} {uc us : Nat} (V : ((a2 ≤ a3 → ∃ v1 : Nat, ev_f h a1 1 4 = some (.ref v1) ∧ (∃ fs : List Value, h v1 = some (3, fs)) ∧ (0 ≤ uc ∧ 0 ≤ us) ∧ ∃ (A : ev_AH → Prop) (X : String → ev_AH → Prop), Mt l G M_A_clear [.ref v1] h (ev_pv A X) ∧ (∀ h2 : ev_AH, A h2 → P (.inl none) h2) ∧ (∀ (E : String) (h9 : ev_AH), X E h9 → P (.inr E) h9)) ∧ (¬ a2 ≤ a3 → ∃ v3 : Nat, ev_f h a1 1 4 = some (.ref v3) ∧ ∃ v5 : Nat, ev_get h v3 a3 v5 ∧ (∃ fs : List Value, h v3 = some (3, fs)) ∧ (∃ fs : List Value, h v5 = some (2, fs)) ∧ ∃ w8 : Value, ev_f h v5 2 2 = some w8 ∧ ∀ h9 : ev_AH, h9 = ev_s h v5 2 (.ref a0) → ∃ v10 : Nat, ev_f h9 a0 1 4 = some (.ref v10) ∧ (∃ fs : List Value, h9 v10 = some (3, fs)) ∧ (2 ≤ uc ∧ 100 ≤ us) ∧ ∃ (A : Int32 → ev_AH → Prop) (X : String → ev_AH → Prop), Mt l G M_A_add0 [.ref v10, .ref v5] h9 (ev_pi A X) ∧ (∀ (r12 : Int32) (h11 : ev_AH), A r12 h11 → ∀ x13 : Int32, x13 = a3 + 1 → Ev l G M_O_takeLinesOf 10 [(0, .ref a0), (1, .ref a1), (2, .int a2), (3, .int x13)] [] h11 (uc - 2) (us - 100) (ev_fin G M_O_takeLinesOf P)) ∧ (∀ (E : String) (h9 : ev_AH), X E h9 → P (.inr E) h9)))) : Ev l G M_O_takeLinesOf 10 [(0, .ref a0), (1, .ref a1), (2, .int a2), (3, .int a3)] [] h uc us (ev_fin G M_O_takeLinesOf P) := by
  refine e_iload_n fO_takeLinesOf_10 rfl 3 rfl ?_
  refine e_iload_n fO_takeLinesOf_11 rfl 2 rfl ?_
  refine e_icmp_ge (tgt := 50) fO_takeLinesOf_12 (by decide) (fun z => ?_) (fun z => ?_)
  · have V := V.1 z
    refine e_aload_n fO_takeLinesOf_50 rfl 1 rfl ?_
    obtain ⟨v1, gv1, V⟩ := V
    refine e_get fO_takeLinesOf_51 kO_30 gv1 ?_
    obtain ⟨gc, V⟩ := V
    obtain ⟨⟨bc, bs⟩, V⟩ := V
    obtain ⟨A, X, hm, V, VX⟩ := V
    refine e_callVv (uc' := uc) (us' := us) (st := []) fO_takeLinesOf_54 wO_takeLinesOf_54 rfl rfl gc hm (Nat.le_of_ble_eq_true rfl) (by show 0 + _ ≤ _; omega) (by show 0 + _ ≤ _; omega) (fun h2 ga => ?_) (fun E h2 gx => ?_)
    · have V := V _ ga
      exact e_vret fO_takeLinesOf_57 rfl V
    · exact e_out (by decide) (VX E _ gx)
  · have V := V.2 z
    refine e_aload_n fO_takeLinesOf_15 rfl 1 rfl ?_
    obtain ⟨v3, gv3, V⟩ := V
    refine e_get fO_takeLinesOf_16 kO_30 gv3 ?_
    refine e_iload_n fO_takeLinesOf_19 rfl 3 rfl ?_
    obtain ⟨v5, gv5, V⟩ := V
    obtain ⟨gc, V⟩ := V
    refine e_callVr (uc' := uc) (us' := us) (st := []) fO_takeLinesOf_20 wO_takeLinesOf_20 rfl rfl gc (sp_A_get gv5) (Nat.le_of_ble_eq_true rfl) (by show 0 + _ ≤ _; omega) (by show 0 + _ ≤ _; omega) (fun r7 h6 ga => ?_) (fun E h6 gx => False.elim gx)
    obtain ⟨rfl, ge⟩ := ga
    replace ge := ge.symm
    subst ge
    obtain ⟨gc, V⟩ := V
    refine e_cast fO_takeLinesOf_23 cO_70 gc ?_
    refine e_astore (ls' := [(4, .ref v5), (0, .ref a0), (1, .ref a1), (2, .int a2), (3, .int a3)]) fO_takeLinesOf_26 (by decide) rfl ?_
    refine e_aload fO_takeLinesOf_28 0 rfl ?_
    refine e_aload_n fO_takeLinesOf_30 rfl 1 rfl ?_
    obtain ⟨w8, gw8, V⟩ := V
    refine e_put fO_takeLinesOf_31 pO_91 gw8 rfl rfl (fun h9 eh9 => ?_)
    have V := V h9 eh9
    refine e_aload_n fO_takeLinesOf_34 rfl 1 rfl ?_
    obtain ⟨v10, gv10, V⟩ := V
    refine e_get fO_takeLinesOf_35 kO_30 gv10 ?_
    refine e_aload fO_takeLinesOf_38 0 rfl ?_
    obtain ⟨gc, V⟩ := V
    obtain ⟨⟨bc, bs⟩, V⟩ := V
    obtain ⟨A, X, hm, V, VX⟩ := V
    refine e_callVi (uc' := (uc - 2)) (us' := (us - 100)) (st := []) fO_takeLinesOf_40 wO_takeLinesOf_40 rfl rfl gc hm (Nat.le_of_ble_eq_true rfl) (by show 2 + _ ≤ _; omega) (by show 100 + _ ≤ _; omega) (fun r12 h11 ga => ?_) (fun E h11 gx => ?_)
    · have V := V _ _ ga
      refine e_pop fO_takeLinesOf_43 rfl ?_
      obtain ⟨x13, ex13⟩ : ∃ z : Int32, z = a3 + 1 := ⟨_, rfl⟩
      have V := V x13 ex13
      refine e_iinc (v := x13) (k := 4) (ls' := [(3, .int x13), (4, .ref v5), (0, .ref a0), (1, .ref a1), (2, .int a2)]) fO_takeLinesOf_44 rfl (by rw [ex13]; rfl) (by decide) rfl ?_
      refine e_goto (tgt := 10) fO_takeLinesOf_47 (by decide) ?_
      exact Ev.loc [2, 3, 4, 0] rfl V
    · exact e_out (by decide) (VX E _ gx)
set_option maxRecDepth 20000 in
theorem vO_takeLinesOf {l : Launch} {G : ev_G} {h : ev_AH} {P : ev_Post} {p0 : Nat} {p1 : Nat} (V : ∃ v1 : Nat, ev_f h p1 1 4 = some (.ref v1) ∧ ∃ v3 : Int32, ev_f h v1 3 1 = some (.int v3) ∧ (∃ fs : List Value, h v1 = some (3, fs)) ∧ Ev l G M_O_takeLinesOf 10 [(0, .ref p0), (1, .ref p1), (2, .int v3), (3, .int 0)] [] h 16 800 (ev_fin G M_O_takeLinesOf P)) : Mt l G M_O_takeLinesOf [.ref p0, .ref p1] h P := by
  refine Mt.of rfl rfl (Nat.le_of_ble_eq_true rfl) ?_
  show Ev l G M_O_takeLinesOf 0 [(0, .ref p0), (1, .ref p1)] [] h 16 800 (ev_fin G M_O_takeLinesOf P)
  refine e_aload_n fO_takeLinesOf_0 rfl 1 rfl ?_
  obtain ⟨v1, gv1, V⟩ := V
  refine e_get fO_takeLinesOf_1 kO_30 gv1 ?_
  obtain ⟨v3, gv3, V⟩ := V
  obtain ⟨gc, V⟩ := V
  refine e_callVi (uc' := 16) (us' := 800) (st := []) fO_takeLinesOf_4 wO_takeLinesOf_4 rfl rfl gc (sp_A_size gv3) (Nat.le_of_ble_eq_true rfl) (by decide) (by decide) (fun r5 h4 ga => ?_) (fun E h4 gx => False.elim gx)
  obtain ⟨rfl, ge⟩ := ga
  replace ge := ge.symm
  subst ge
  refine e_istore_n (ls' := [(2, .int v3), (0, .ref p0), (1, .ref p1)]) fO_takeLinesOf_7 rfl (by decide) rfl ?_
  refine e_iconst (v := 0) fO_takeLinesOf_8 (by decide) ?_
  refine e_istore_n (ls' := [(3, .int 0), (2, .int v3), (0, .ref p0), (1, .ref p1)]) fO_takeLinesOf_9 rfl (by decide) rfl ?_
  exact Ev.loc [2, 3, 1, 0] rfl V
set_option maxRecDepth 20000 in
theorem vO_missing_14 {l : Launch} {G : ev_G} {h : ev_AH} {P : ev_Post} {a0 : Nat} {a1 : Int32} {a2 : Int32} (V : ∃ v1 : Nat, ev_f h a0 1 4 = some (.ref v1) ∧ ∃ v3 : Int32, ev_f h v1 3 1 = some (.int v3) ∧ (∃ fs : List Value, h v1 = some (3, fs)) ∧ ((v3 ≤ a2 → P (.inl (some (.int a1))) h) ∧ (¬ v3 ≤ a2 → ∃ v6 : Nat, ev_f h a0 1 4 = some (.ref v6) ∧ ∃ v8 : Nat, ev_get h v6 a2 v8 ∧ (∃ fs : List Value, h v6 = some (3, fs)) ∧ (∃ fs : List Value, h v8 = some (2, fs)) ∧ ∃ v11 : Int32, ev_f h v8 2 9 = some (.int v11) ∧ ∃ J13 : Int32 → Prop, J13 = (fun (j12 : Int32) => ∀ x14 : Int32, x14 = a2 + 1 → Ev l G M_O_missing 14 [(0, .ref a0), (1, .int j12), (2, .int x14)] [] h 0 0 (ev_fin G M_O_missing P)) ∧ ((v11 = 0 → J13 a1) ∧ (¬ v11 = 0 → ∃ v16 : Int32, ev_f h v8 2 3 = some (.int v16) ∧ ∃ v17 : Int32, ev_f h v8 2 7 = some (.int v17) ∧ (∃ fs : List Value, h v8 = some (2, fs)) ∧ ∀ x20 : Int32, x20 = a1 + (v16 - v17) → J13 x20))))) : Ev l G M_O_missing 14 [(0, .ref a0), (1, .int a1), (2, .int a2)] [] h 0 0 (ev_fin G M_O_missing P) := by
  refine e_iload_n fO_missing_14 rfl 2 rfl ?_
  refine e_aload_n fO_missing_15 rfl 0 rfl ?_
  obtain ⟨v1, gv1, V⟩ := V
  refine e_get fO_missing_16 kO_30 gv1 ?_
  obtain ⟨v3, gv3, V⟩ := V
  obtain ⟨gc, V⟩ := V
  refine e_callVi (uc' := 0) (us' := 0) (st := [.int a2]) fO_missing_19 wO_missing_19 rfl rfl gc (sp_A_size gv3) (Nat.le_of_ble_eq_true rfl) (by decide) (by decide) (fun r5 h4 ga => ?_) (fun E h4 gx => False.elim gx)
  obtain ⟨rfl, ge⟩ := ga
  replace ge := ge.symm
  subst ge
  refine e_icmp_ge (tgt := 57) fO_missing_22 (by decide) (fun z => ?_) (fun z => ?_)
  · have V := V.1 z
    refine e_iload_n fO_missing_57 rfl 1 rfl ?_
    exact e_iret fO_missing_58 rfl V
  · have V := V.2 z
    refine e_aload_n fO_missing_25 rfl 0 rfl ?_
    obtain ⟨v6, gv6, V⟩ := V
    refine e_get fO_missing_26 kO_30 gv6 ?_
    refine e_iload_n fO_missing_29 rfl 2 rfl ?_
    obtain ⟨v8, gv8, V⟩ := V
    obtain ⟨gc, V⟩ := V
    refine e_callVr (uc' := 0) (us' := 0) (st := []) fO_missing_30 wO_missing_30 rfl rfl gc (sp_A_get gv8) (Nat.le_of_ble_eq_true rfl) (by decide) (by decide) (fun r10 h9 ga => ?_) (fun E h9 gx => False.elim gx)
    obtain ⟨rfl, ge⟩ := ga
    replace ge := ge.symm
    subst ge
    obtain ⟨gc, V⟩ := V
    refine e_cast fO_missing_33 cO_70 gc ?_
    refine e_astore_n (ls' := [(3, .ref v8), (0, .ref a0), (1, .int a1), (2, .int a2)]) fO_missing_36 rfl (by decide) rfl ?_
    refine e_aload_n fO_missing_37 rfl 0 rfl ?_
    obtain ⟨v11, gv11, V⟩ := V
    refine e_get fO_missing_38 kO_72 gv11 ?_
    obtain ⟨J13, VJ13, V⟩ := V
    have KJ13 : ∀ (j12 : Int32), J13 j12 → Ev l G M_O_missing 51 [(0, .ref a0), (1, .int j12), (2, .int a2), (3, .ref v8)] [] h 0 0 (ev_fin G M_O_missing P) := by
      intro j12 hj
      have V := Eq.mp (congrFun VJ13 j12) hj
      obtain ⟨x14, ex14⟩ : ∃ z : Int32, z = a2 + 1 := ⟨_, rfl⟩
      have V := V x14 ex14
      refine e_iinc (v := x14) (k := 2) (ls' := [(2, .int x14), (0, .ref a0), (1, .int j12), (3, .ref v8)]) fO_missing_51 rfl (by rw [ex14]; rfl) (by decide) rfl ?_
      refine e_goto (tgt := 14) fO_missing_54 (by decide) ?_
      exact Ev.loc [1, 2, 0] rfl V
    refine e_if_eq (tgt := 51) fO_missing_41 (by decide) (fun z => ?_) (fun z => ?_)
    · have V := V.1 z
      exact Ev.widen (by decide) (by decide) (Ev.loc [1, 2, 3, 0] rfl (KJ13 _ V))
    · have V := V.2 z
      refine e_iload_n fO_missing_44 rfl 2 rfl ?_
      refine e_aload_n fO_missing_45 rfl 0 rfl ?_
      obtain ⟨v16, gv16, V⟩ := V
      obtain ⟨v17, gv17, V⟩ := V
      obtain ⟨gc, V⟩ := V
      refine e_callVi (uc' := 0) (us' := 0) (st := [.int a1]) fO_missing_46 wO_missing_46 rfl rfl gc (sp_L_missing gv16 gv17) (Nat.le_of_ble_eq_true rfl) (by decide) (by decide) (fun r19 h18 ga => ?_) (fun E h18 gx => False.elim gx)
      obtain ⟨rfl, ge⟩ := ga
      replace ge := ge.symm
      subst ge
      refine e_iadd fO_missing_49 ?_
      refine e_topi (fun x20 ex20 => ?_)
      have V := V x20 ex20
      refine e_istore_n (ls' := [(1, .int x20), (3, .ref v8), (0, .ref a0), (2, .int a2)]) fO_missing_50 rfl (by decide) rfl ?_
      exact Ev.widen (by decide) (by decide) (Ev.loc [2, 0, 3, 1] rfl (KJ13 _ V))
set_option maxRecDepth 20000 in
theorem vO_missing {l : Launch} {G : ev_G} {h : ev_AH} {P : ev_Post} {p0 : Nat} (V : ∃ v1 : Int32, ev_f h p0 1 6 = some (.int v1) ∧ ((4 ≤ v1 → Ev l G M_O_missing 14 [(0, .ref p0), (1, .int 0), (2, .int 0)] [] h 0 0 (ev_fin G M_O_missing P)) ∧ (¬ 4 ≤ v1 → P (.inl (some (.int 0))) h))) : Mt l G M_O_missing [.ref p0] h P := by
  refine Mt.of rfl rfl (Nat.le_of_ble_eq_true rfl) ?_
  show Ev l G M_O_missing 0 [(0, .ref p0)] [] h 0 0 (ev_fin G M_O_missing P)
  refine e_aload_n fO_missing_0 rfl 0 rfl ?_
  obtain ⟨v1, gv1, V⟩ := V
  refine e_get fO_missing_1 kO_34 gv1 ?_
  refine e_iconst (v := 4) fO_missing_4 (by decide) ?_
  refine e_icmp_ge (tgt := 10) fO_missing_5 (by decide) (fun z => ?_) (fun z => ?_)
  · have V := V.1 z
    refine e_iconst (v := 0) fO_missing_10 (by decide) ?_
    refine e_istore_n (ls' := [(1, .int 0), (0, .ref p0)]) fO_missing_11 rfl (by decide) rfl ?_
    refine e_iconst (v := 0) fO_missing_12 (by decide) ?_
    refine e_istore_n (ls' := [(2, .int 0), (1, .int 0), (0, .ref p0)]) fO_missing_13 rfl (by decide) rfl ?_
    exact Ev.loc [2, 1, 0] rfl V
  · have V := V.2 z
    refine e_iconst (v := 0) fO_missing_8 (by decide) ?_
    exact e_iret fO_missing_9 rfl V
