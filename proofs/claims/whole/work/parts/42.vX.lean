/-! WALKS: OrderRows3 -/
set_option maxRecDepth 20000 in
theorem vX_init {l : Launch} {G : ev_G} {h : ev_AH} {P : ev_Post} {p0 : Nat} (V : ∀ q1 : Nat, h q1 = none → ∀ h2 : ev_AH, h2 = ev_up h q1 (3, [.null, .int 0, .int 0]) → ∃ (A : ev_AH → Prop), Mt l G M_A_init [.ref q1] h2 (ev_pv A (fun _ _ => False)) ∧ (∀ h3 : ev_AH, A h3 → ∃ w4 : Value, ev_f h3 p0 0 0 = some w4 ∧ ∀ h5 : ev_AH, h5 = ev_s h3 p0 0 (.ref q1) → ∀ q6 : Nat, h5 q6 = none → ∀ h7 : ev_AH, h7 = ev_up h5 q6 (3, [.null, .int 0, .int 0]) → ∃ (A : ev_AH → Prop), Mt l G M_A_init [.ref q6] h7 (ev_pv A (fun _ _ => False)) ∧ (∀ h8 : ev_AH, A h8 → ∃ w9 : Value, ev_f h8 p0 0 1 = some w9 ∧ ∀ h10 : ev_AH, h10 = ev_s h8 p0 1 (.ref q6) → P (.inl none) h10))) : Mt l G M_X_init [.ref p0] h P := by
  refine Mt.of rfl rfl (Nat.le_of_ble_eq_true rfl) ?_
  show Ev l G M_X_init 0 [(0, .ref p0)] [] h 2 6 (ev_fin G M_X_init P)
  refine e_aload_n fX_init_0 rfl 0 rfl ?_
  refine e_obj fX_init_1 oX_1.1 oX_1.2.1 oX_1.2.2 (Nat.le_of_ble_eq_true rfl) (Nat.le_of_ble_eq_true rfl) ?_
  refine e_aload_n fX_init_4 rfl 0 rfl ?_
  refine e_new (uc' := 1) (us' := 3) fX_init_5 nX_7 rfl (by decide) (by decide) (fun q1 gq1 h2 eh2 => ?_)
  have V := V q1 gq1 h2 eh2
  refine e_dup fX_init_8 rfl ?_
  obtain ⟨A, hm, V⟩ := V
  refine e_callIv (uc' := 1) (us' := 3) (st := [.ref q1, .ref p0]) fX_init_9 wX_init_9 rfl rfl hm (Nat.le_of_ble_eq_true rfl) (by decide) (by decide) (fun h3 ga => ?_)
  have V := V _ ga
  obtain ⟨w4, gw4, V⟩ := V
  refine e_putF fX_init_12 pX_10 rfl gw4 rfl rfl (fun h5 eh5 => ?_)
  have V := V h5 eh5
  refine e_aload_n fX_init_15 rfl 0 rfl ?_
  refine e_new (uc' := 0) (us' := 0) fX_init_16 nX_7 rfl (by decide) (by decide) (fun q6 gq6 h7 eh7 => ?_)
  have V := V q6 gq6 h7 eh7
  refine e_dup fX_init_19 rfl ?_
  obtain ⟨A, hm, V⟩ := V
  refine e_callIv (uc' := 0) (us' := 0) (st := [.ref q6, .ref p0]) fX_init_20 wX_init_20 rfl rfl hm (Nat.le_of_ble_eq_true rfl) (by decide) (by decide) (fun h8 ga => ?_)
  have V := V _ ga
  obtain ⟨w9, gw9, V⟩ := V
  refine e_putF fX_init_23 pX_16 rfl gw9 rfl rfl (fun h10 eh10 => ?_)
  have V := V h10 eh10
  exact e_vret fX_init_26 rfl V
set_option maxRecDepth 20000 in
theorem vX_order {l : Launch} {G : ev_G} {h : ev_AH} {P : ev_Post} {p0 : Nat} {p1 : Int32} {p2 : Int32} {p3 : Int32} {p4 : Int32} (V : (((¬ p1 < 0 ∧ ¬ 7 < p1) → (((¬ p2 < 1 ∧ ¬ 99999 < p2) → (((¬ p3 < 1 ∧ ¬ 9 < p3) → (((¬ p4 < 0 ∧ ¬ 10000 < p4) → (∃ fs : List Value, h p0 = some (0, fs)) ∧ ∃ (A : Int32 → ev_AH → Prop) (X : String → ev_AH → Prop), Mt l G M_X_firstWithOwnNumber [.ref p0, .int p1, .int p2] h (ev_pi A X) ∧ (∀ (r10 : Int32) (h9 : ev_AH), A r10 h9 → ((r10 = (-1) → (∃ fs : List Value, h9 p0 = some (0, fs)) ∧ ∃ (A : ev_AH → Prop) (X : String → ev_AH → Prop), Mt l G M_X_requireRoomForOrder [.ref p0] h9 (ev_pv A X) ∧ (∀ h11 : ev_AH, A h11 → (∃ fs : List Value, h11 p0 = some (0, fs)) ∧ ∃ (A : Nat → ev_AH → Prop) (X : String → ev_AH → Prop), Mt l G M_X_addOrder [.ref p0, .int p1, .int p2, .int p3, .int p4] h11 (ev_pr A X) ∧ (∀ (r13 : Nat) (h12 : ev_AH), A r13 h12 → ∃ v14 : Int32, ev_f h12 r13 1 0 = some (.int v14) ∧ P (.inl (some (.int v14))) h12) ∧ (∀ (E : String) (h9 : ev_AH), X E h9 → P (.inr E) h9)) ∧ (∀ (E : String) (h9 : ev_AH), X E h9 → P (.inr E) h9)) ∧ (¬ r10 = (-1) → P (.inl (some (.int ((-1) - r10)))) h9))) ∧ (∀ (E : String) (h9 : ev_AH), X E h9 → P (.inr E) h9)) ∧ ((p4 < 0 ∨ 10000 < p4) → P (.inr "java/lang/IllegalArgumentException") h))) ∧ ((p3 < 1 ∨ 9 < p3) → P (.inr "java/lang/IllegalArgumentException") h))) ∧ ((p2 < 1 ∨ 99999 < p2) → P (.inr "java/lang/IllegalArgumentException") h))) ∧ ((p1 < 0 ∨ 7 < p1) → P (.inr "java/lang/IllegalArgumentException") h))) : Mt l G M_X_order [.ref p0, .int p1, .int p2, .int p3, .int p4] h P := by
  refine Mt.of rfl rfl (Nat.le_of_ble_eq_true rfl) ?_
  show Ev l G M_X_order 0 [(0, .ref p0), (1, .int p1), (2, .int p2), (3, .int p3), (4, .int p4)] [] h 9 143 (ev_fin G M_X_order P)
  refine e_iload_n fX_order_0 rfl 1 rfl ?_
  refine e_iconst (v := 0) fX_order_1 (by decide) ?_
  refine e_bipush (v := 7) fX_order_2 (by decide) ?_
  refine e_callSv (uc' := 8) (us' := 137) (st := []) fX_order_4 wX_order_4 rfl rfl sp_X_requireRange (Nat.le_of_ble_eq_true rfl) (by decide) (by decide) (fun h2 ga => ?_) (fun E h2 gx => ?_)
  · obtain ⟨rfl, z⟩ := ga
    have V := V.1 z
    refine e_iload_n fX_order_7 rfl 2 rfl ?_
    refine e_iconst (v := 1) fX_order_8 (by decide) ?_
    refine e_ldc (v := 99999) fX_order_9 iX_23 ?_
    refine e_callSv (uc' := 7) (us' := 131) (st := []) fX_order_11 wX_order_11 rfl rfl sp_X_requireRange (Nat.le_of_ble_eq_true rfl) (by decide) (by decide) (fun h4 ga => ?_) (fun E h4 gx => ?_)
    · obtain ⟨rfl, z⟩ := ga
      have V := V.1 z
      refine e_iload_n fX_order_14 rfl 3 rfl ?_
      refine e_iconst (v := 1) fX_order_15 (by decide) ?_
      refine e_bipush (v := 9) fX_order_16 (by decide) ?_
      refine e_callSv (uc' := 6) (us' := 125) (st := []) fX_order_18 wX_order_18 rfl rfl sp_X_requireRange (Nat.le_of_ble_eq_true rfl) (by decide) (by decide) (fun h6 ga => ?_) (fun E h6 gx => ?_)
      · obtain ⟨rfl, z⟩ := ga
        have V := V.1 z
        refine e_iload fX_order_21 4 rfl ?_
        refine e_iconst (v := 0) fX_order_23 (by decide) ?_
        refine e_sipush (v := 10000) fX_order_24 (by decide) ?_
        refine e_callSv (uc' := 5) (us' := 119) (st := []) fX_order_27 wX_order_27 rfl rfl sp_X_requireRange (Nat.le_of_ble_eq_true rfl) (by decide) (by decide) (fun h8 ga => ?_) (fun E h8 gx => ?_)
        · obtain ⟨rfl, z⟩ := ga
          have V := V.1 z
          refine e_aload_n fX_order_30 rfl 0 rfl ?_
          refine e_iload_n fX_order_31 rfl 1 rfl ?_
          refine e_iload_n fX_order_32 rfl 2 rfl ?_
          obtain ⟨gc, V⟩ := V
          obtain ⟨A, X, hm, V, VX⟩ := V
          refine e_callVi (uc' := 5) (us' := 119) (st := []) fX_order_33 wX_order_33 rfl rfl gc hm (Nat.le_of_ble_eq_true rfl) (by decide) (by decide) (fun r10 h9 ga => ?_) (fun E h9 gx => ?_)
          · have V := V _ _ ga
            refine e_istore (ls' := [(5, .int r10), (0, .ref p0), (1, .int p1), (2, .int p2), (3, .int p3), (4, .int p4)]) fX_order_36 (by decide) rfl ?_
            refine e_iload fX_order_38 0 rfl ?_
            refine e_iconst (v := -1) fX_order_40 (by decide) ?_
            refine e_icmp_eq (tgt := 49) fX_order_41 (by decide) (fun z => ?_) (fun z => ?_)
            · have V := V.1 z
              refine e_aload_n fX_order_49 rfl 1 rfl ?_
              obtain ⟨gc, V⟩ := V
              obtain ⟨A, X, hm, V, VX⟩ := V
              refine e_callVv (uc' := 4) (us' := 113) (st := []) fX_order_50 wX_order_50 rfl rfl gc hm (Nat.le_of_ble_eq_true rfl) (by decide) (by decide) (fun h11 ga => ?_) (fun E h11 gx => ?_)
              · have V := V _ ga
                refine e_aload_n fX_order_53 rfl 1 rfl ?_
                refine e_iload_n fX_order_54 rfl 2 rfl ?_
                refine e_iload_n fX_order_55 rfl 3 rfl ?_
                refine e_iload_n fX_order_56 rfl 4 rfl ?_
                refine e_iload fX_order_57 5 rfl ?_
                obtain ⟨gc, V⟩ := V
                obtain ⟨A, X, hm, V, VX⟩ := V
                refine e_callVr (uc' := 0) (us' := 0) (st := []) fX_order_59 wX_order_59 rfl rfl gc hm (Nat.le_of_ble_eq_true rfl) (by decide) (by decide) (fun r13 h12 ga => ?_) (fun E h12 gx => ?_)
                · have V := V _ _ ga
                  obtain ⟨v14, gv14, V⟩ := V
                  refine e_get fX_order_62 kX_35 gv14 ?_
                  exact e_iret fX_order_65 rfl V
                · exact e_out (by decide) (VX E _ gx)
              · exact e_out (by decide) (VX E _ gx)
            · have V := V.2 z
              refine e_iconst (v := -1) fX_order_44 (by decide) ?_
              refine e_iload fX_order_45 0 rfl ?_
              refine e_isub fX_order_47 ?_
              exact e_iret fX_order_48 rfl V
          · exact e_out (by decide) (VX E _ gx)
        · obtain ⟨rfl, z, rfl⟩ := gx
          exact e_out (by decide) (V.2 z)
      · obtain ⟨rfl, z, rfl⟩ := gx
        exact e_out (by decide) (V.2 z)
    · obtain ⟨rfl, z, rfl⟩ := gx
      exact e_out (by decide) (V.2 z)
  · obtain ⟨rfl, z, rfl⟩ := gx
    exact e_out (by decide) (V.2 z)
set_option maxRecDepth 20000 in
theorem vX_line {l : Launch} {G : ev_G} {h : ev_AH} {P : ev_Post} {p0 : Nat} {p1 : Int32} {p2 : Int32} {p3 : Int32} {p4 : Int32} (V : (∃ fs : List Value, h p0 = some (0, fs)) ∧ ∃ (A : Nat → ev_AH → Prop) (X : String → ev_AH → Prop), Mt l G M_X_orderAt [.ref p0, .int p1] h (ev_pr A X) ∧ (∀ (r2 : Nat) (h1 : ev_AH), A r2 h1 → (((¬ p2 < 0 ∧ ¬ 15 < p2) → (((¬ p3 < 1 ∧ ¬ 1000 < p3) → (((¬ p4 < 0 ∧ ¬ 7 < p4) → ∃ v9 : Int32, ev_f h1 r2 1 6 = some (.int v9) ∧ ∃ J11 : Int32 → Prop, J11 = (fun (j10 : Int32) => ((¬ j10 = 0 → ∃ v14 : Nat, ev_f h1 r2 1 4 = some (.ref v14) ∧ ∃ v16 : Int32, ev_f h1 v14 3 1 = some (.int v16) ∧ (∃ fs : List Value, h1 v14 = some (3, fs)) ∧ ∃ J20 : Int32 → Prop, J20 = (fun (j19 : Int32) => ((¬ j19 = 0 → (∃ fs : List Value, h1 p0 = some (0, fs)) ∧ ∃ (A : ev_AH → Prop) (X : String → ev_AH → Prop), Mt l G M_X_requireRoomForLine [.ref p0] h1 (ev_pv A X) ∧ (∀ h23 : ev_AH, A h23 → (∃ fs : List Value, h23 p0 = some (0, fs)) ∧ ∃ (A : Nat → ev_AH → Prop) (X : String → ev_AH → Prop), Mt l G M_X_addLine [.ref p0, .ref r2, .int p2, .int p3, .int p4] h23 (ev_pr A X) ∧ (∀ (r25 : Nat) (h24 : ev_AH), A r25 h24 → ∃ v26 : Int32, ev_f h24 r25 2 0 = some (.int v26) ∧ P (.inl (some (.int v26))) h24) ∧ (∀ (E : String) (h9 : ev_AH), X E h9 → P (.inr E) h9)) ∧ (∀ (E : String) (h9 : ev_AH), X E h9 → P (.inr E) h9)) ∧ (j19 = 0 → P (.inr "java/lang/UnsupportedOperationException") h1))) ∧ ((8 ≤ v16 → J20 0) ∧ (¬ 8 ≤ v16 → J20 1))) ∧ (j10 = 0 → P (.inr "java/lang/IllegalStateException") h1))) ∧ ((¬ v9 = 0 → J11 0) ∧ (v9 = 0 → J11 1))) ∧ ((p4 < 0 ∨ 7 < p4) → P (.inr "java/lang/IllegalArgumentException") h1))) ∧ ((p3 < 1 ∨ 1000 < p3) → P (.inr "java/lang/IllegalArgumentException") h1))) ∧ ((p2 < 0 ∨ 15 < p2) → P (.inr "java/lang/IllegalArgumentException") h1))) ∧ (∀ (E : String) (h9 : ev_AH), X E h9 → P (.inr E) h9)) : Mt l G M_X_line [.ref p0, .int p1, .int p2, .int p3, .int p4] h P := by
  refine Mt.of rfl rfl (Nat.le_of_ble_eq_true rfl) ?_
  show Ev l G M_X_line 0 [(0, .ref p0), (1, .int p1), (2, .int p2), (3, .int p3), (4, .int p4)] [] h 12 253 (ev_fin G M_X_line P)
  refine e_aload_n fX_line_0 rfl 0 rfl ?_
  refine e_iload_n fX_line_1 rfl 1 rfl ?_
  obtain ⟨gc, V⟩ := V
  obtain ⟨A, X, hm, V, VX⟩ := V
  refine e_callVr (uc' := 11) (us' := 247) (st := []) fX_line_2 wX_line_2 rfl rfl gc hm (Nat.le_of_ble_eq_true rfl) (by decide) (by decide) (fun r2 h1 ga => ?_) (fun E h1 gx => ?_)
  · have V := V _ _ ga
    refine e_astore (ls' := [(5, .ref r2), (0, .ref p0), (1, .int p1), (2, .int p2), (3, .int p3), (4, .int p4)]) fX_line_5 (by decide) rfl ?_
    refine e_iload_n fX_line_7 rfl 3 rfl ?_
    refine e_iconst (v := 0) fX_line_8 (by decide) ?_
    refine e_bipush (v := 15) fX_line_9 (by decide) ?_
    refine e_callSv (uc' := 10) (us' := 241) (st := []) fX_line_11 wX_line_11 rfl rfl sp_X_requireRange (Nat.le_of_ble_eq_true rfl) (by decide) (by decide) (fun h4 ga => ?_) (fun E h4 gx => ?_)
    · obtain ⟨rfl, z⟩ := ga
      have V := V.1 z
      refine e_iload_n fX_line_14 rfl 4 rfl ?_
      refine e_iconst (v := 1) fX_line_15 (by decide) ?_
      refine e_sipush (v := 1000) fX_line_16 (by decide) ?_
      refine e_callSv (uc' := 9) (us' := 235) (st := []) fX_line_19 wX_line_19 rfl rfl sp_X_requireRange (Nat.le_of_ble_eq_true rfl) (by decide) (by decide) (fun h6 ga => ?_) (fun E h6 gx => ?_)
      · obtain ⟨rfl, z⟩ := ga
        have V := V.1 z
        refine e_iload fX_line_22 5 rfl ?_
        refine e_iconst (v := 0) fX_line_24 (by decide) ?_
        refine e_bipush (v := 7) fX_line_25 (by decide) ?_
        refine e_callSv (uc' := 8) (us' := 229) (st := []) fX_line_27 wX_line_27 rfl rfl sp_X_requireRange (Nat.le_of_ble_eq_true rfl) (by decide) (by decide) (fun h8 ga => ?_) (fun E h8 gx => ?_)
        · obtain ⟨rfl, z⟩ := ga
          have V := V.1 z
          refine e_aload fX_line_30 0 rfl ?_
          obtain ⟨v9, gv9, V⟩ := V
          refine e_get fX_line_32 kX_45 gv9 ?_
          obtain ⟨J11, VJ11, V⟩ := V
          have KJ11 : ∀ (j10 : Int32), J11 j10 → Ev l G M_X_line 43 [(0, .ref p0), (1, .int p1), (2, .int p2), (3, .int p3), (4, .int p4), (5, .ref r2)] [.int j10] h1 8 229 (ev_fin G M_X_line P) := by
            intro j10 hj
            have V := Eq.mp (congrFun VJ11 j10) hj
            refine e_callSv (uc' := 7) (us' := 223) (st := []) fX_line_43 wX_line_43 rfl rfl sp_X_requireState (Nat.le_of_ble_eq_true rfl) (by decide) (by decide) (fun h13 ga => ?_) (fun E h13 gx => ?_)
            · obtain ⟨rfl, z⟩ := ga
              have V := V.1 z
              refine e_aload fX_line_46 5 rfl ?_
              obtain ⟨v14, gv14, V⟩ := V
              refine e_get fX_line_48 kX_52 gv14 ?_
              obtain ⟨v16, gv16, V⟩ := V
              obtain ⟨gc, V⟩ := V
              refine e_callVi (uc' := 7) (us' := 223) (st := []) fX_line_51 wX_line_51 rfl rfl gc (sp_A_size gv16) (Nat.le_of_ble_eq_true rfl) (by decide) (by decide) (fun r18 h17 ga => ?_) (fun E h17 gx => False.elim gx)
              obtain ⟨rfl, ge⟩ := ga
              replace ge := ge.symm
              subst ge
              refine e_bipush (v := 8) fX_line_54 (by decide) ?_
              obtain ⟨J20, VJ20, V⟩ := V
              have KJ20 : ∀ (j19 : Int32), J20 j19 → Ev l G M_X_line 64 [(0, .ref p0), (1, .int p1), (2, .int p2), (3, .int p3), (4, .int p4), (5, .ref r2)] [.int j19] h1 7 223 (ev_fin G M_X_line P) := by
                intro j19 hj
                have V := Eq.mp (congrFun VJ20 j19) hj
                refine e_callSv (uc' := 6) (us' := 217) (st := []) fX_line_64 wX_line_64 rfl rfl sp_X_requireRoom (Nat.le_of_ble_eq_true rfl) (by decide) (by decide) (fun h22 ga => ?_) (fun E h22 gx => ?_)
                · obtain ⟨rfl, z⟩ := ga
                  have V := V.1 z
                  refine e_aload_n fX_line_67 rfl 0 rfl ?_
                  obtain ⟨gc, V⟩ := V
                  obtain ⟨A, X, hm, V, VX⟩ := V
                  refine e_callVv (uc' := 5) (us' := 211) (st := []) fX_line_68 wX_line_68 rfl rfl gc hm (Nat.le_of_ble_eq_true rfl) (by decide) (by decide) (fun h23 ga => ?_) (fun E h23 gx => ?_)
                  · have V := V _ ga
                    refine e_aload_n fX_line_71 rfl 0 rfl ?_
                    refine e_aload fX_line_72 5 rfl ?_
                    refine e_iload_n fX_line_74 rfl 2 rfl ?_
                    refine e_iload_n fX_line_75 rfl 3 rfl ?_
                    refine e_iload fX_line_76 4 rfl ?_
                    obtain ⟨gc, V⟩ := V
                    obtain ⟨A, X, hm, V, VX⟩ := V
                    refine e_callVr (uc' := 0) (us' := 0) (st := []) fX_line_78 wX_line_78 rfl rfl gc hm (Nat.le_of_ble_eq_true rfl) (by decide) (by decide) (fun r25 h24 ga => ?_) (fun E h24 gx => ?_)
                    · have V := V _ _ ga
                      obtain ⟨v26, gv26, V⟩ := V
                      refine e_get fX_line_81 kX_67 gv26 ?_
                      exact e_iret fX_line_84 rfl V
                    · exact e_out (by decide) (VX E _ gx)
                  · exact e_out (by decide) (VX E _ gx)
                · obtain ⟨rfl, z, rfl⟩ := gx
                  exact e_out (by decide) (V.2 z)
              refine e_icmp_ge (tgt := 63) fX_line_56 (by decide) (fun z => ?_) (fun z => ?_)
              · have V := V.1 z
                refine e_iconst (v := 0) fX_line_63 (by decide) ?_
                exact Ev.widen (by decide) (by decide) (Ev.loc [0, 1, 2, 3, 4, 5] rfl (KJ20 _ V))
              · have V := V.2 z
                refine e_iconst (v := 1) fX_line_59 (by decide) ?_
                refine e_goto (tgt := 64) fX_line_60 (by decide) ?_
                exact Ev.widen (by decide) (by decide) (Ev.loc [0, 1, 2, 3, 4, 5] rfl (KJ20 _ V))
            · obtain ⟨rfl, z, rfl⟩ := gx
              exact e_out (by decide) (V.2 z)
          refine e_if_ne (tgt := 42) fX_line_35 (by decide) (fun z => ?_) (fun z => ?_)
          · have V := V.1 z
            refine e_iconst (v := 0) fX_line_42 (by decide) ?_
            exact Ev.widen (by decide) (by decide) (Ev.loc [1, 2, 3, 4, 5, 0] rfl (KJ11 _ V))
          · have V := V.2 z
            refine e_iconst (v := 1) fX_line_38 (by decide) ?_
            refine e_goto (tgt := 43) fX_line_39 (by decide) ?_
            exact Ev.widen (by decide) (by decide) (Ev.loc [1, 2, 3, 4, 5, 0] rfl (KJ11 _ V))
        · obtain ⟨rfl, z, rfl⟩ := gx
          exact e_out (by decide) (V.2 z)
      · obtain ⟨rfl, z, rfl⟩ := gx
        exact e_out (by decide) (V.2 z)
    · obtain ⟨rfl, z, rfl⟩ := gx
      exact e_out (by decide) (V.2 z)
  · exact e_out (by decide) (VX E _ gx)
set_option maxRecDepth 20000 in
theorem vX_hold {l : Launch} {G : ev_G} {h : ev_AH} {P : ev_Post} {p0 : Nat} {p1 : Int32} {p2 : Int32} (V : (∃ fs : List Value, h p0 = some (0, fs)) ∧ ∃ (A : Nat → ev_AH → Prop) (X : String → ev_AH → Prop), Mt l G M_X_lineAt [.ref p0, .int p1] h (ev_pr A X) ∧ (∀ (r2 : Nat) (h1 : ev_AH), A r2 h1 → (((¬ p2 < 1 ∧ ¬ 1000 < p2) → ∃ v5 : Nat, ev_f h1 r2 2 2 = some (.ref v5) ∧ ∃ v6 : Int32, ev_f h1 v5 1 6 = some (.int v6) ∧ ∃ J8 : Int32 → Prop, J8 = (fun (j7 : Int32) => ((¬ j7 = 0 → ∃ v11 : Int32, ev_f h1 r2 2 9 = some (.int v11) ∧ ((¬ v11 = 0 → ∃ v14 : Int32, ev_f h1 r2 2 5 = some (.int v14) ∧ ∃ v15 : Int32, ev_f h1 r2 2 3 = some (.int v15) ∧ ∃ J17 : Int32 → Prop, J17 = (fun (j16 : Int32) => ((¬ j16 = 0 → ∃ v20 : Int32, ev_f h1 r2 2 5 = some (.int v20) ∧ ∃ w21 : Value, ev_f h1 r2 2 5 = some w21 ∧ ∀ h22 : ev_AH, h22 = ev_s h1 r2 5 (.int (v20 + p2)) → ∃ v23 : Nat, ev_f h22 r2 2 2 = some (.ref v23) ∧ ∃ v24 : Int32, ev_f h22 v23 1 8 = some (.int v24) ∧ ∃ w25 : Value, ev_f h22 v23 1 8 = some w25 ∧ ∀ h26 : ev_AH, h26 = ev_s h22 v23 8 (.int (v24 + 1)) → ∃ v27 : Int32, ev_f h26 r2 2 5 = some (.int v27) ∧ P (.inl (some (.int v27))) h26) ∧ (j16 = 0 → P (.inr "java/lang/IllegalStateException") h1))) ∧ ((v15 < (v14 + p2) → J17 0) ∧ (¬ v15 < (v14 + p2) → J17 1))) ∧ (v11 = 0 → P (.inr "java/lang/IllegalStateException") h1))) ∧ (j7 = 0 → P (.inr "java/lang/IllegalStateException") h1))) ∧ ((v6 = 0 → J8 1) ∧ (¬ v6 = 0 → ∃ v28 : Nat, ev_f h1 r2 2 2 = some (.ref v28) ∧ ∃ v29 : Int32, ev_f h1 v28 1 6 = some (.int v29) ∧ ((¬ v29 = 1 → J8 0) ∧ (v29 = 1 → J8 1))))) ∧ ((p2 < 1 ∨ 1000 < p2) → P (.inr "java/lang/IllegalArgumentException") h1))) ∧ (∀ (E : String) (h9 : ev_AH), X E h9 → P (.inr E) h9)) : Mt l G M_X_hold [.ref p0, .int p1, .int p2] h P := by
  refine Mt.of rfl rfl (Nat.le_of_ble_eq_true rfl) ?_
  show Ev l G M_X_hold 0 [(0, .ref p0), (1, .int p1), (2, .int p2)] [] h 5 30 (ev_fin G M_X_hold P)
  refine e_aload_n fX_hold_0 rfl 0 rfl ?_
  refine e_iload_n fX_hold_1 rfl 1 rfl ?_
  obtain ⟨gc, V⟩ := V
  obtain ⟨A, X, hm, V, VX⟩ := V
  refine e_callVr (uc' := 4) (us' := 24) (st := []) fX_hold_2 wX_hold_2 rfl rfl gc hm (Nat.le_of_ble_eq_true rfl) (by decide) (by decide) (fun r2 h1 ga => ?_) (fun E h1 gx => ?_)
  · have V := V _ _ ga
    refine e_astore_n (ls' := [(3, .ref r2), (0, .ref p0), (1, .int p1), (2, .int p2)]) fX_hold_5 rfl (by decide) rfl ?_
    refine e_iload_n fX_hold_6 rfl 3 rfl ?_
    refine e_iconst (v := 1) fX_hold_7 (by decide) ?_
    refine e_sipush (v := 1000) fX_hold_8 (by decide) ?_
    refine e_callSv (uc' := 3) (us' := 18) (st := []) fX_hold_11 wX_hold_11 rfl rfl sp_X_requireRange (Nat.le_of_ble_eq_true rfl) (by decide) (by decide) (fun h4 ga => ?_) (fun E h4 gx => ?_)
    · obtain ⟨rfl, z⟩ := ga
      have V := V.1 z
      refine e_aload_n fX_hold_14 rfl 0 rfl ?_
      obtain ⟨v5, gv5, V⟩ := V
      refine e_get fX_hold_15 kX_74 gv5 ?_
      obtain ⟨v6, gv6, V⟩ := V
      refine e_get fX_hold_18 kX_45 gv6 ?_
      obtain ⟨J8, VJ8, V⟩ := V
      have KJ8 : ∀ (j7 : Int32), J8 j7 → Ev l G M_X_hold 40 [(0, .ref p0), (1, .int p1), (2, .int p2), (3, .ref r2)] [.int j7] h1 3 18 (ev_fin G M_X_hold P) := by
        intro j7 hj
        have V := Eq.mp (congrFun VJ8 j7) hj
        refine e_callSv (uc' := 2) (us' := 12) (st := []) fX_hold_40 wX_hold_40 rfl rfl sp_X_requireState (Nat.le_of_ble_eq_true rfl) (by decide) (by decide) (fun h10 ga => ?_) (fun E h10 gx => ?_)
        · obtain ⟨rfl, z⟩ := ga
          have V := V.1 z
          refine e_aload_n fX_hold_43 rfl 3 rfl ?_
          obtain ⟨v11, gv11, V⟩ := V
          refine e_get fX_hold_44 kX_78 gv11 ?_
          refine e_callSv (uc' := 1) (us' := 6) (st := []) fX_hold_47 wX_hold_47 rfl rfl sp_X_requireState (Nat.le_of_ble_eq_true rfl) (by decide) (by decide) (fun h13 ga => ?_) (fun E h13 gx => ?_)
          · obtain ⟨rfl, z⟩ := ga
            have V := V.1 z
            refine e_aload_n fX_hold_50 rfl 3 rfl ?_
            obtain ⟨v14, gv14, V⟩ := V
            refine e_get fX_hold_51 kX_82 gv14 ?_
            refine e_iload_n fX_hold_54 rfl 2 rfl ?_
            refine e_iadd fX_hold_55 ?_
            refine e_aload_n fX_hold_56 rfl 3 rfl ?_
            obtain ⟨v15, gv15, V⟩ := V
            refine e_get fX_hold_57 kX_85 gv15 ?_
            obtain ⟨J17, VJ17, V⟩ := V
            have KJ17 : ∀ (j16 : Int32), J17 j16 → Ev l G M_X_hold 68 [(0, .ref p0), (1, .int p1), (2, .int p2), (3, .ref r2)] [.int j16] h1 1 6 (ev_fin G M_X_hold P) := by
              intro j16 hj
              have V := Eq.mp (congrFun VJ17 j16) hj
              refine e_callSv (uc' := 0) (us' := 0) (st := []) fX_hold_68 wX_hold_68 rfl rfl sp_X_requireState (Nat.le_of_ble_eq_true rfl) (by decide) (by decide) (fun h19 ga => ?_) (fun E h19 gx => ?_)
              · obtain ⟨rfl, z⟩ := ga
                have V := V.1 z
                refine e_aload_n fX_hold_71 rfl 3 rfl ?_
                refine e_dup fX_hold_72 rfl ?_
                obtain ⟨v20, gv20, V⟩ := V
                refine e_get fX_hold_73 kX_82 gv20 ?_
                refine e_iload_n fX_hold_76 rfl 2 rfl ?_
                refine e_iadd fX_hold_77 ?_
                obtain ⟨w21, gw21, V⟩ := V
                refine e_put fX_hold_78 pX_82 gw21 rfl rfl (fun h22 eh22 => ?_)
                have V := V h22 eh22
                refine e_aload_n fX_hold_81 rfl 3 rfl ?_
                obtain ⟨v23, gv23, V⟩ := V
                refine e_get fX_hold_82 kX_74 gv23 ?_
                refine e_dup fX_hold_85 rfl ?_
                obtain ⟨v24, gv24, V⟩ := V
                refine e_get fX_hold_86 kX_88 gv24 ?_
                refine e_iconst (v := 1) fX_hold_89 (by decide) ?_
                refine e_iadd fX_hold_90 ?_
                obtain ⟨w25, gw25, V⟩ := V
                refine e_put fX_hold_91 pX_88 gw25 rfl rfl (fun h26 eh26 => ?_)
                have V := V h26 eh26
                refine e_aload_n fX_hold_94 rfl 3 rfl ?_
                obtain ⟨v27, gv27, V⟩ := V
                refine e_get fX_hold_95 kX_82 gv27 ?_
                exact e_iret fX_hold_98 rfl V
              · obtain ⟨rfl, z, rfl⟩ := gx
                exact e_out (by decide) (V.2 z)
            refine e_icmp_gt (tgt := 67) fX_hold_60 (by decide) (fun z => ?_) (fun z => ?_)
            · have V := V.1 z
              refine e_iconst (v := 0) fX_hold_67 (by decide) ?_
              exact Ev.widen (by decide) (by decide) (Ev.loc [0, 1, 2, 3] rfl (KJ17 _ V))
            · have V := V.2 z
              refine e_iconst (v := 1) fX_hold_63 (by decide) ?_
              refine e_goto (tgt := 68) fX_hold_64 (by decide) ?_
              exact Ev.widen (by decide) (by decide) (Ev.loc [0, 1, 2, 3] rfl (KJ17 _ V))
          · obtain ⟨rfl, z, rfl⟩ := gx
            exact e_out (by decide) (V.2 z)
        · obtain ⟨rfl, z, rfl⟩ := gx
          exact e_out (by decide) (V.2 z)
      refine e_if_eq (tgt := 35) fX_hold_21 (by decide) (fun z => ?_) (fun z => ?_)
      · have V := V.1 z
        refine e_iconst (v := 1) fX_hold_35 (by decide) ?_
        refine e_goto (tgt := 40) fX_hold_36 (by decide) ?_
        exact Ev.widen (by decide) (by decide) (Ev.loc [1, 2, 3, 0] rfl (KJ8 _ V))
      · have V := V.2 z
        refine e_aload_n fX_hold_24 rfl 0 rfl ?_
        obtain ⟨v28, gv28, V⟩ := V
        refine e_get fX_hold_25 kX_74 gv28 ?_
        obtain ⟨v29, gv29, V⟩ := V
        refine e_get fX_hold_28 kX_45 gv29 ?_
        refine e_iconst (v := 1) fX_hold_31 (by decide) ?_
        refine e_icmp_ne (tgt := 39) fX_hold_32 (by decide) (fun z => ?_) (fun z => ?_)
        · have V := V.1 z
          refine e_iconst (v := 0) fX_hold_39 (by decide) ?_
          exact Ev.widen (by decide) (by decide) (Ev.loc [1, 2, 3, 0] rfl (KJ8 _ V))
        · have V := V.2 z
          refine e_iconst (v := 1) fX_hold_35 (by decide) ?_
          refine e_goto (tgt := 40) fX_hold_36 (by decide) ?_
          exact Ev.widen (by decide) (by decide) (Ev.loc [1, 2, 3, 0] rfl (KJ8 _ V))
    · obtain ⟨rfl, z, rfl⟩ := gx
      exact e_out (by decide) (V.2 z)
  · exact e_out (by decide) (VX E _ gx)
set_option maxRecDepth 20000 in
theorem vX_pick {l : Launch} {G : ev_G} {h : ev_AH} {P : ev_Post} {p0 : Nat} {p1 : Int32} {p2 : Int32} (V : (∃ fs : List Value, h p0 = some (0, fs)) ∧ ∃ (A : Nat → ev_AH → Prop) (X : String → ev_AH → Prop), Mt l G M_X_lineAt [.ref p0, .int p1] h (ev_pr A X) ∧ (∀ (r2 : Nat) (h1 : ev_AH), A r2 h1 → (((¬ p2 < 1 ∧ ¬ 1000 < p2) → ∃ v5 : Nat, ev_f h1 r2 2 2 = some (.ref v5) ∧ ∃ v6 : Int32, ev_f h1 v5 1 6 = some (.int v6) ∧ ∃ J8 : Int32 → Prop, J8 = (fun (j7 : Int32) => ((¬ j7 = 0 → ∃ v11 : Nat, ev_f h1 r2 2 2 = some (.ref v11) ∧ ∃ v13 : Int32, ev_f h1 v11 1 7 = some (.int v13) ∧ (∃ fs : List Value, h1 v11 = some (1, fs)) ∧ ∃ J17 : Int32 → Prop, J17 = (fun (j16 : Int32) => ((¬ j16 = 0 → ∃ v20 : Int32, ev_f h1 r2 2 6 = some (.int v20) ∧ ∃ v21 : Int32, ev_f h1 r2 2 5 = some (.int v21) ∧ ∃ J23 : Int32 → Prop, J23 = (fun (j22 : Int32) => ((¬ j22 = 0 → ∃ v26 : Int32, ev_f h1 r2 2 6 = some (.int v26) ∧ ∃ w27 : Value, ev_f h1 r2 2 6 = some w27 ∧ ∀ h28 : ev_AH, h28 = ev_s h1 r2 6 (.int (v26 + p2)) → ∃ v29 : Nat, ev_f h28 r2 2 2 = some (.ref v29) ∧ ∃ v30 : Int32, ev_f h28 v29 1 8 = some (.int v30) ∧ ∃ w31 : Value, ev_f h28 v29 1 8 = some w31 ∧ ∀ h32 : ev_AH, h32 = ev_s h28 v29 8 (.int (v30 + 1)) → ∃ v33 : Int32, ev_f h32 r2 2 6 = some (.int v33) ∧ P (.inl (some (.int v33))) h32) ∧ (j22 = 0 → P (.inr "java/lang/IllegalStateException") h1))) ∧ ((v21 < (v20 + p2) → J23 0) ∧ (¬ v21 < (v20 + p2) → J23 1))) ∧ (j16 = 0 → P (.inr "java/lang/IllegalStateException") h1))) ∧ ((¬ (ev_b (¬ v13 = 0)) = 0 → J17 0) ∧ ((ev_b (¬ v13 = 0)) = 0 → J17 1))) ∧ (j7 = 0 → P (.inr "java/lang/IllegalStateException") h1))) ∧ ((¬ v6 = 2 → J8 0) ∧ (v6 = 2 → J8 1))) ∧ ((p2 < 1 ∨ 1000 < p2) → P (.inr "java/lang/IllegalArgumentException") h1))) ∧ (∀ (E : String) (h9 : ev_AH), X E h9 → P (.inr E) h9)) : Mt l G M_X_pick [.ref p0, .int p1, .int p2] h P := by
  refine Mt.of rfl rfl (Nat.le_of_ble_eq_true rfl) ?_
  show Ev l G M_X_pick 0 [(0, .ref p0), (1, .int p1), (2, .int p2)] [] h 5 30 (ev_fin G M_X_pick P)
  refine e_aload_n fX_pick_0 rfl 0 rfl ?_
  refine e_iload_n fX_pick_1 rfl 1 rfl ?_
  obtain ⟨gc, V⟩ := V
  obtain ⟨A, X, hm, V, VX⟩ := V
  refine e_callVr (uc' := 4) (us' := 24) (st := []) fX_pick_2 wX_pick_2 rfl rfl gc hm (Nat.le_of_ble_eq_true rfl) (by decide) (by decide) (fun r2 h1 ga => ?_) (fun E h1 gx => ?_)
  · have V := V _ _ ga
    refine e_astore_n (ls' := [(3, .ref r2), (0, .ref p0), (1, .int p1), (2, .int p2)]) fX_pick_5 rfl (by decide) rfl ?_
    refine e_iload_n fX_pick_6 rfl 3 rfl ?_
    refine e_iconst (v := 1) fX_pick_7 (by decide) ?_
    refine e_sipush (v := 1000) fX_pick_8 (by decide) ?_
    refine e_callSv (uc' := 3) (us' := 18) (st := []) fX_pick_11 wX_pick_11 rfl rfl sp_X_requireRange (Nat.le_of_ble_eq_true rfl) (by decide) (by decide) (fun h4 ga => ?_) (fun E h4 gx => ?_)
    · obtain ⟨rfl, z⟩ := ga
      have V := V.1 z
      refine e_aload_n fX_pick_14 rfl 0 rfl ?_
      obtain ⟨v5, gv5, V⟩ := V
      refine e_get fX_pick_15 kX_74 gv5 ?_
      obtain ⟨v6, gv6, V⟩ := V
      refine e_get fX_pick_18 kX_45 gv6 ?_
      refine e_iconst (v := 2) fX_pick_21 (by decide) ?_
      obtain ⟨J8, VJ8, V⟩ := V
      have KJ8 : ∀ (j7 : Int32), J8 j7 → Ev l G M_X_pick 30 [(0, .ref p0), (1, .int p1), (2, .int p2), (3, .ref r2)] [.int j7] h1 3 18 (ev_fin G M_X_pick P) := by
        intro j7 hj
        have V := Eq.mp (congrFun VJ8 j7) hj
        refine e_callSv (uc' := 2) (us' := 12) (st := []) fX_pick_30 wX_pick_30 rfl rfl sp_X_requireState (Nat.le_of_ble_eq_true rfl) (by decide) (by decide) (fun h10 ga => ?_) (fun E h10 gx => ?_)
        · obtain ⟨rfl, z⟩ := ga
          have V := V.1 z
          refine e_aload_n fX_pick_33 rfl 3 rfl ?_
          obtain ⟨v11, gv11, V⟩ := V
          refine e_get fX_pick_34 kX_74 gv11 ?_
          obtain ⟨v13, gv13, V⟩ := V
          obtain ⟨gc, V⟩ := V
          refine e_callVi (uc' := 2) (us' := 12) (st := []) fX_pick_37 wX_pick_37 rfl rfl gc (sp_O_isBlocked gv13) (Nat.le_of_ble_eq_true rfl) (by decide) (by decide) (fun r15 h14 ga => ?_) (fun E h14 gx => False.elim gx)
          obtain ⟨rfl, ge⟩ := ga
          replace ge := ge.symm
          subst ge
          obtain ⟨J17, VJ17, V⟩ := V
          have KJ17 : ∀ (j16 : Int32), J17 j16 → Ev l G M_X_pick 48 [(0, .ref p0), (1, .int p1), (2, .int p2), (3, .ref r2)] [.int j16] h1 2 12 (ev_fin G M_X_pick P) := by
            intro j16 hj
            have V := Eq.mp (congrFun VJ17 j16) hj
            refine e_callSv (uc' := 1) (us' := 6) (st := []) fX_pick_48 wX_pick_48 rfl rfl sp_X_requireState (Nat.le_of_ble_eq_true rfl) (by decide) (by decide) (fun h19 ga => ?_) (fun E h19 gx => ?_)
            · obtain ⟨rfl, z⟩ := ga
              have V := V.1 z
              refine e_aload_n fX_pick_51 rfl 3 rfl ?_
              obtain ⟨v20, gv20, V⟩ := V
              refine e_get fX_pick_52 kX_95 gv20 ?_
              refine e_iload_n fX_pick_55 rfl 2 rfl ?_
              refine e_iadd fX_pick_56 ?_
              refine e_aload_n fX_pick_57 rfl 3 rfl ?_
              obtain ⟨v21, gv21, V⟩ := V
              refine e_get fX_pick_58 kX_82 gv21 ?_
              obtain ⟨J23, VJ23, V⟩ := V
              have KJ23 : ∀ (j22 : Int32), J23 j22 → Ev l G M_X_pick 69 [(0, .ref p0), (1, .int p1), (2, .int p2), (3, .ref r2)] [.int j22] h1 1 6 (ev_fin G M_X_pick P) := by
                intro j22 hj
                have V := Eq.mp (congrFun VJ23 j22) hj
                refine e_callSv (uc' := 0) (us' := 0) (st := []) fX_pick_69 wX_pick_69 rfl rfl sp_X_requireState (Nat.le_of_ble_eq_true rfl) (by decide) (by decide) (fun h25 ga => ?_) (fun E h25 gx => ?_)
                · obtain ⟨rfl, z⟩ := ga
                  have V := V.1 z
                  refine e_aload_n fX_pick_72 rfl 3 rfl ?_
                  refine e_dup fX_pick_73 rfl ?_
                  obtain ⟨v26, gv26, V⟩ := V
                  refine e_get fX_pick_74 kX_95 gv26 ?_
                  refine e_iload_n fX_pick_77 rfl 2 rfl ?_
                  refine e_iadd fX_pick_78 ?_
                  obtain ⟨w27, gw27, V⟩ := V
                  refine e_put fX_pick_79 pX_95 gw27 rfl rfl (fun h28 eh28 => ?_)
                  have V := V h28 eh28
                  refine e_aload_n fX_pick_82 rfl 3 rfl ?_
                  obtain ⟨v29, gv29, V⟩ := V
                  refine e_get fX_pick_83 kX_74 gv29 ?_
                  refine e_dup fX_pick_86 rfl ?_
                  obtain ⟨v30, gv30, V⟩ := V
                  refine e_get fX_pick_87 kX_88 gv30 ?_
                  refine e_iconst (v := 1) fX_pick_90 (by decide) ?_
                  refine e_iadd fX_pick_91 ?_
                  obtain ⟨w31, gw31, V⟩ := V
                  refine e_put fX_pick_92 pX_88 gw31 rfl rfl (fun h32 eh32 => ?_)
                  have V := V h32 eh32
                  refine e_aload_n fX_pick_95 rfl 3 rfl ?_
                  obtain ⟨v33, gv33, V⟩ := V
                  refine e_get fX_pick_96 kX_95 gv33 ?_
                  exact e_iret fX_pick_99 rfl V
                · obtain ⟨rfl, z, rfl⟩ := gx
                  exact e_out (by decide) (V.2 z)
              refine e_icmp_gt (tgt := 68) fX_pick_61 (by decide) (fun z => ?_) (fun z => ?_)
              · have V := V.1 z
                refine e_iconst (v := 0) fX_pick_68 (by decide) ?_
                exact Ev.widen (by decide) (by decide) (Ev.loc [0, 1, 2, 3] rfl (KJ23 _ V))
              · have V := V.2 z
                refine e_iconst (v := 1) fX_pick_64 (by decide) ?_
                refine e_goto (tgt := 69) fX_pick_65 (by decide) ?_
                exact Ev.widen (by decide) (by decide) (Ev.loc [0, 1, 2, 3] rfl (KJ23 _ V))
            · obtain ⟨rfl, z, rfl⟩ := gx
              exact e_out (by decide) (V.2 z)
          refine e_if_ne (tgt := 47) fX_pick_40 (by decide) (fun z => ?_) (fun z => ?_)
          · have V := V.1 z
            refine e_iconst (v := 0) fX_pick_47 (by decide) ?_
            exact Ev.widen (by decide) (by decide) (Ev.loc [0, 1, 2, 3] rfl (KJ17 _ V))
          · have V := V.2 z
            refine e_iconst (v := 1) fX_pick_43 (by decide) ?_
            refine e_goto (tgt := 48) fX_pick_44 (by decide) ?_
            exact Ev.widen (by decide) (by decide) (Ev.loc [0, 1, 2, 3] rfl (KJ17 _ V))
        · obtain ⟨rfl, z, rfl⟩ := gx
          exact e_out (by decide) (V.2 z)
      refine e_icmp_ne (tgt := 29) fX_pick_22 (by decide) (fun z => ?_) (fun z => ?_)
      · have V := V.1 z
        refine e_iconst (v := 0) fX_pick_29 (by decide) ?_
        exact Ev.widen (by decide) (by decide) (Ev.loc [1, 2, 3, 0] rfl (KJ8 _ V))
      · have V := V.2 z
        refine e_iconst (v := 1) fX_pick_25 (by decide) ?_
        refine e_goto (tgt := 30) fX_pick_26 (by decide) ?_
        exact Ev.widen (by decide) (by decide) (Ev.loc [1, 2, 3, 0] rfl (KJ8 _ V))
    · obtain ⟨rfl, z, rfl⟩ := gx
      exact e_out (by decide) (V.2 z)
  · exact e_out (by decide) (VX E _ gx)
set_option maxRecDepth 20000 in
theorem vX_goOn {l : Launch} {G : ev_G} {h : ev_AH} {P : ev_Post} {p0 : Nat} {p1 : Int32} (V : (∃ fs : List Value, h p0 = some (0, fs)) ∧ ∃ (A : Nat → ev_AH → Prop) (X : String → ev_AH → Prop), Mt l G M_X_orderAt [.ref p0, .int p1] h (ev_pr A X) ∧ (∀ (r2 : Nat) (h1 : ev_AH), A r2 h1 → ∃ v3 : Int32, ev_f h1 r2 1 6 = some (.int v3) ∧ ∃ J5 : Int32 → Prop, J5 = (fun (j4 : Int32) => ((¬ j4 = 0 → ∃ v9 : Int32, ev_f h1 r2 1 7 = some (.int v9) ∧ (∃ fs : List Value, h1 r2 = some (1, fs)) ∧ ((¬ (ev_b (¬ v9 = 0)) = 0 → P (.inl (some (.int (-1)))) h1) ∧ ((ev_b (¬ v9 = 0)) = 0 → (∃ fs : List Value, h1 r2 = some (1, fs)) ∧ ∃ (A : Int32 → ev_AH → Prop) (X : String → ev_AH → Prop), Mt l G M_O_meetsNextPhase [.ref r2] h1 (ev_pi A X) ∧ (∀ (r13 : Int32) (h12 : ev_AH), A r13 h12 → ((¬ r13 = 0 → ∃ v14 : Int32, ev_f h12 r2 1 6 = some (.int v14) ∧ ∃ J16 : ev_AH → Prop, J16 = (fun (h15 : ev_AH) => ∃ v17 : Int32, ev_f h15 r2 1 6 = some (.int v17) ∧ ∃ w18 : Value, ev_f h15 r2 1 6 = some w18 ∧ ∀ h19 : ev_AH, h19 = ev_s h15 r2 6 (.int (v17 + 1)) → ∃ v20 : Int32, ev_f h19 r2 1 8 = some (.int v20) ∧ ∃ w21 : Value, ev_f h19 r2 1 8 = some w21 ∧ ∀ h22 : ev_AH, h22 = ev_s h19 r2 8 (.int (v20 + 1)) → ∃ v23 : Int32, ev_f h22 r2 1 6 = some (.int v23) ∧ P (.inl (some (.int v23))) h22) ∧ ((¬ v14 = 3 → J16 h12) ∧ (v14 = 3 → (∃ fs : List Value, h12 r2 = some (1, fs)) ∧ ∃ (A : ev_AH → Prop) (X : String → ev_AH → Prop), Mt l G M_O_shipAllPicked [.ref r2] h12 (ev_pv A X) ∧ (∀ h24 : ev_AH, A h24 → J16 h24) ∧ (∀ (E : String) (h9 : ev_AH), X E h9 → P (.inr E) h9)))) ∧ (r13 = 0 → P (.inl (some (.int (-1)))) h12))) ∧ (∀ (E : String) (h9 : ev_AH), X E h9 → P (.inr E) h9)))) ∧ (j4 = 0 → P (.inr "java/lang/IllegalStateException") h1))) ∧ ((5 ≤ v3 → J5 0) ∧ (¬ 5 ≤ v3 → J5 1))) ∧ (∀ (E : String) (h9 : ev_AH), X E h9 → P (.inr E) h9)) : Mt l G M_X_goOn [.ref p0, .int p1] h P := by
  refine Mt.of rfl rfl (Nat.le_of_ble_eq_true rfl) ?_
  show Ev l G M_X_goOn 0 [(0, .ref p0), (1, .int p1)] [] h 2 12 (ev_fin G M_X_goOn P)
  refine e_aload_n fX_goOn_0 rfl 0 rfl ?_
  refine e_iload_n fX_goOn_1 rfl 1 rfl ?_
  obtain ⟨gc, V⟩ := V
  obtain ⟨A, X, hm, V, VX⟩ := V
  refine e_callVr (uc' := 1) (us' := 6) (st := []) fX_goOn_2 wX_goOn_2 rfl rfl gc hm (Nat.le_of_ble_eq_true rfl) (by decide) (by decide) (fun r2 h1 ga => ?_) (fun E h1 gx => ?_)
  · have V := V _ _ ga
    refine e_astore_n (ls' := [(2, .ref r2), (0, .ref p0), (1, .int p1)]) fX_goOn_5 rfl (by decide) rfl ?_
    refine e_aload_n fX_goOn_6 rfl 0 rfl ?_
    obtain ⟨v3, gv3, V⟩ := V
    refine e_get fX_goOn_7 kX_45 gv3 ?_
    refine e_iconst (v := 5) fX_goOn_10 (by decide) ?_
    obtain ⟨J5, VJ5, V⟩ := V
    have KJ5 : ∀ (j4 : Int32), J5 j4 → Ev l G M_X_goOn 19 [(0, .ref p0), (1, .int p1), (2, .ref r2)] [.int j4] h1 1 6 (ev_fin G M_X_goOn P) := by
      intro j4 hj
      have V := Eq.mp (congrFun VJ5 j4) hj
      refine e_callSv (uc' := 0) (us' := 0) (st := []) fX_goOn_19 wX_goOn_19 rfl rfl sp_X_requireState (Nat.le_of_ble_eq_true rfl) (by decide) (by decide) (fun h7 ga => ?_) (fun E h7 gx => ?_)
      · obtain ⟨rfl, z⟩ := ga
        have V := V.1 z
        refine e_aload_n fX_goOn_22 rfl 2 rfl ?_
        obtain ⟨v9, gv9, V⟩ := V
        obtain ⟨gc, V⟩ := V
        refine e_callVi (uc' := 0) (us' := 0) (st := []) fX_goOn_23 wX_goOn_23 rfl rfl gc (sp_O_isBlocked gv9) (Nat.le_of_ble_eq_true rfl) (by decide) (by decide) (fun r11 h10 ga => ?_) (fun E h10 gx => False.elim gx)
        obtain ⟨rfl, ge⟩ := ga
        replace ge := ge.symm
        subst ge
        refine e_if_ne (tgt := 36) fX_goOn_26 (by decide) (fun z => ?_) (fun z => ?_)
        · have V := V.1 z
          refine e_iconst (v := -1) fX_goOn_36 (by decide) ?_
          exact e_iret fX_goOn_37 rfl V
        · have V := V.2 z
          refine e_aload_n fX_goOn_29 rfl 2 rfl ?_
          obtain ⟨gc, V⟩ := V
          obtain ⟨A, X, hm, V, VX⟩ := V
          refine e_callVi (uc' := 0) (us' := 0) (st := []) fX_goOn_30 wX_goOn_30 rfl rfl gc hm (Nat.le_of_ble_eq_true rfl) (by decide) (by decide) (fun r13 h12 ga => ?_) (fun E h12 gx => ?_)
          · have V := V _ _ ga
            refine e_if_ne (tgt := 38) fX_goOn_33 (by decide) (fun z => ?_) (fun z => ?_)
            · have V := V.1 z
              refine e_aload_n fX_goOn_38 rfl 2 rfl ?_
              obtain ⟨v14, gv14, V⟩ := V
              refine e_get fX_goOn_39 kX_45 gv14 ?_
              refine e_iconst (v := 3) fX_goOn_42 (by decide) ?_
              obtain ⟨J16, VJ16, V⟩ := V
              have KJ16 : ∀ (h15 : ev_AH), J16 h15 → Ev l G M_X_goOn 50 [(0, .ref p0), (1, .int p1), (2, .ref r2)] [] h15 0 0 (ev_fin G M_X_goOn P) := by
                intro h15 hj
                have V := Eq.mp (congrFun VJ16 h15) hj
                refine e_aload_n fX_goOn_50 rfl 2 rfl ?_
                refine e_dup fX_goOn_51 rfl ?_
                obtain ⟨v17, gv17, V⟩ := V
                refine e_get fX_goOn_52 kX_45 gv17 ?_
                refine e_iconst (v := 1) fX_goOn_55 (by decide) ?_
                refine e_iadd fX_goOn_56 ?_
                obtain ⟨w18, gw18, V⟩ := V
                refine e_put fX_goOn_57 pX_45 gw18 rfl rfl (fun h19 eh19 => ?_)
                have V := V h19 eh19
                refine e_aload_n fX_goOn_60 rfl 2 rfl ?_
                refine e_dup fX_goOn_61 rfl ?_
                obtain ⟨v20, gv20, V⟩ := V
                refine e_get fX_goOn_62 kX_88 gv20 ?_
                refine e_iconst (v := 1) fX_goOn_65 (by decide) ?_
                refine e_iadd fX_goOn_66 ?_
                obtain ⟨w21, gw21, V⟩ := V
                refine e_put fX_goOn_67 pX_88 gw21 rfl rfl (fun h22 eh22 => ?_)
                have V := V h22 eh22
                refine e_aload_n fX_goOn_70 rfl 2 rfl ?_
                obtain ⟨v23, gv23, V⟩ := V
                refine e_get fX_goOn_71 kX_45 gv23 ?_
                exact e_iret fX_goOn_74 rfl V
              refine e_icmp_ne (tgt := 50) fX_goOn_43 (by decide) (fun z => ?_) (fun z => ?_)
              · have V := V.1 z
                exact Ev.widen (by decide) (by decide) (Ev.loc [0, 1, 2] rfl (KJ16 _ V))
              · have V := V.2 z
                refine e_aload_n fX_goOn_46 rfl 2 rfl ?_
                obtain ⟨gc, V⟩ := V
                obtain ⟨A, X, hm, V, VX⟩ := V
                refine e_callVv (uc' := 0) (us' := 0) (st := []) fX_goOn_47 wX_goOn_47 rfl rfl gc hm (Nat.le_of_ble_eq_true rfl) (by decide) (by decide) (fun h24 ga => ?_) (fun E h24 gx => ?_)
                · have V := V _ ga
                  exact Ev.widen (by decide) (by decide) (Ev.loc [0, 1, 2] rfl (KJ16 _ V))
                · exact e_out (by decide) (VX E _ gx)
            · have V := V.2 z
              refine e_iconst (v := -1) fX_goOn_36 (by decide) ?_
              exact e_iret fX_goOn_37 rfl V
          · exact e_out (by decide) (VX E _ gx)
      · obtain ⟨rfl, z, rfl⟩ := gx
        exact e_out (by decide) (V.2 z)
    refine e_icmp_ge (tgt := 18) fX_goOn_11 (by decide) (fun z => ?_) (fun z => ?_)
    · have V := V.1 z
      refine e_iconst (v := 0) fX_goOn_18 (by decide) ?_
      exact Ev.widen (by decide) (by decide) (Ev.loc [1, 2, 0] rfl (KJ5 _ V))
    · have V := V.2 z
      refine e_iconst (v := 1) fX_goOn_14 (by decide) ?_
      refine e_goto (tgt := 19) fX_goOn_15 (by decide) ?_
      exact Ev.widen (by decide) (by decide) (Ev.loc [1, 2, 0] rfl (KJ5 _ V))
  · exact e_out (by decide) (VX E _ gx)
set_option maxRecDepth 20000 in
theorem vX_change {l : Launch} {G : ev_G} {h : ev_AH} {P : ev_Post} {p0 : Nat} {p1 : Int32} {p2 : Int32} {p3 : Int32} (V : (∃ fs : List Value, h p0 = some (0, fs)) ∧ ∃ (A : Nat → ev_AH → Prop) (X : String → ev_AH → Prop), Mt l G M_X_lineAt [.ref p0, .int p1] h (ev_pr A X) ∧ (∀ (r2 : Nat) (h1 : ev_AH), A r2 h1 → (((¬ p2 < 0 ∧ ¬ 2 < p2) → ∃ (A : ev_AH → Prop) (X : String → ev_AH → Prop), Mt l G M_X_requireChangeValue [.int p2, .int p3] h1 (ev_pv A X) ∧ (∀ h5 : ev_AH, A h5 → ∃ v6 : Int32, ev_f h5 r2 2 9 = some (.int v6) ∧ ((¬ v6 = 0 → ∃ v9 : Nat, ev_f h5 r2 2 2 = some (.ref v9) ∧ ∃ v10 : Int32, ev_f h5 v9 1 6 = some (.int v10) ∧ ((¬ (ev_b (v10 = 0 ∨ (v10 = 1 ∧ p2 = 2))) = 0 → ∃ J14 : Prop, J14 = (∃ (A : ev_AH → Prop) (X : String → ev_AH → Prop), Mt l G M_X_applyChange [.ref r2, .int p2, .int p3] h5 (ev_pv A X) ∧ (∀ h15 : ev_AH, A h15 → ∃ v16 : Nat, ev_f h15 r2 2 2 = some (.ref v16) ∧ ∃ v17 : Int32, ev_f h15 v16 1 8 = some (.int v17) ∧ ∃ w18 : Value, ev_f h15 v16 1 8 = some w18 ∧ ∀ h19 : ev_AH, h19 = ev_s h15 v16 8 (.int (v17 + 1)) → P (.inl (some (.int 1))) h19) ∧ (∀ (E : String) (h9 : ev_AH), X E h9 → P (.inr E) h9)) ∧ ((¬ p2 = 1 → J14) ∧ (p2 = 1 → ∃ v21 : Int32, ev_f h5 r2 2 4 = some (.int v21) ∧ (∃ fs : List Value, h5 r2 = some (2, fs)) ∧ ((¬ (ev_b (¬ (v21 &&& 2) = 0)) = 0 → ∃ v26 : Int32, ev_f h5 r2 2 1 = some (.int v26) ∧ ∃ J28 : Int32 → Prop, J28 = (fun (j27 : Int32) => ((¬ j27 = 0 → J14) ∧ (j27 = 0 → P (.inr "java/lang/IllegalStateException") h5))) ∧ ((p3 = v26 → J28 0) ∧ (¬ p3 = v26 → J28 1))) ∧ ((ev_b (¬ (v21 &&& 2) = 0)) = 0 → P (.inr "java/lang/IllegalStateException") h5))))) ∧ ((ev_b (v10 = 0 ∨ (v10 = 1 ∧ p2 = 2))) = 0 → P (.inl (some (.int 0))) h5))) ∧ (v6 = 0 → P (.inr "java/lang/IllegalStateException") h5))) ∧ (∀ (E : String) (h9 : ev_AH), X E h9 → P (.inr E) h9)) ∧ ((p2 < 0 ∨ 2 < p2) → P (.inr "java/lang/IllegalArgumentException") h1))) ∧ (∀ (E : String) (h9 : ev_AH), X E h9 → P (.inr E) h9)) : Mt l G M_X_change [.ref p0, .int p1, .int p2, .int p3] h P := by
  refine Mt.of rfl rfl (Nat.le_of_ble_eq_true rfl) ?_
  show Ev l G M_X_change 0 [(0, .ref p0), (1, .int p1), (2, .int p2), (3, .int p3)] [] h 8 48 (ev_fin G M_X_change P)
  refine e_aload_n fX_change_0 rfl 0 rfl ?_
  refine e_iload_n fX_change_1 rfl 1 rfl ?_
  obtain ⟨gc, V⟩ := V
  obtain ⟨A, X, hm, V, VX⟩ := V
  refine e_callVr (uc' := 7) (us' := 42) (st := []) fX_change_2 wX_change_2 rfl rfl gc hm (Nat.le_of_ble_eq_true rfl) (by decide) (by decide) (fun r2 h1 ga => ?_) (fun E h1 gx => ?_)
  · have V := V _ _ ga
    refine e_astore (ls' := [(4, .ref r2), (0, .ref p0), (1, .int p1), (2, .int p2), (3, .int p3)]) fX_change_5 (by decide) rfl ?_
    refine e_iload_n fX_change_7 rfl 3 rfl ?_
    refine e_iconst (v := 0) fX_change_8 (by decide) ?_
    refine e_iconst (v := 2) fX_change_9 (by decide) ?_
    refine e_callSv (uc' := 6) (us' := 36) (st := []) fX_change_10 wX_change_10 rfl rfl sp_X_requireRange (Nat.le_of_ble_eq_true rfl) (by decide) (by decide) (fun h4 ga => ?_) (fun E h4 gx => ?_)
    · obtain ⟨rfl, z⟩ := ga
      have V := V.1 z
      refine e_iload_n fX_change_13 rfl 3 rfl ?_
      refine e_iload_n fX_change_14 rfl 4 rfl ?_
      obtain ⟨A, X, hm, V, VX⟩ := V
      refine e_callSv (uc' := 3) (us' := 18) (st := []) fX_change_15 wX_change_15 rfl rfl hm (Nat.le_of_ble_eq_true rfl) (by decide) (by decide) (fun h5 ga => ?_) (fun E h5 gx => ?_)
      · have V := V _ ga
        refine e_aload fX_change_18 0 rfl ?_
        obtain ⟨v6, gv6, V⟩ := V
        refine e_get fX_change_20 kX_78 gv6 ?_
        refine e_callSv (uc' := 2) (us' := 12) (st := []) fX_change_23 wX_change_23 rfl rfl sp_X_requireState (Nat.le_of_ble_eq_true rfl) (by decide) (by decide) (fun h8 ga => ?_) (fun E h8 gx => ?_)
        · obtain ⟨rfl, z⟩ := ga
          have V := V.1 z
          refine e_aload fX_change_26 0 rfl ?_
          obtain ⟨v9, gv9, V⟩ := V
          refine e_get fX_change_28 kX_74 gv9 ?_
          obtain ⟨v10, gv10, V⟩ := V
          refine e_get fX_change_31 kX_45 gv10 ?_
          refine e_iload_n fX_change_34 rfl 3 rfl ?_
          refine e_callSi (uc' := 2) (us' := 12) (st := []) fX_change_35 wX_change_35 rfl rfl sp_X_phaseLetsChange (Nat.le_of_ble_eq_true rfl) (by decide) (by decide) (fun r13 h12 ga => ?_) (fun E h12 gx => False.elim gx)
          obtain ⟨rfl, ge⟩ := ga
          replace ge := ge.symm
          subst ge
          refine e_if_ne (tgt := 43) fX_change_38 (by decide) (fun z => ?_) (fun z => ?_)
          · have V := V.1 z
            refine e_iload_n fX_change_43 rfl 3 rfl ?_
            refine e_iconst (v := 1) fX_change_44 (by decide) ?_
            obtain ⟨J14, VJ14, V⟩ := V
            have KJ14 : J14 → Ev l G M_X_change 74 [(0, .ref p0), (1, .int p1), (2, .int p2), (3, .int p3), (4, .ref r2)] [] h5 0 0 (ev_fin G M_X_change P) := by
              intro hj
              have V := Eq.mp VJ14 hj
              refine e_aload fX_change_74 4 rfl ?_
              refine e_iload_n fX_change_76 rfl 2 rfl ?_
              refine e_iload_n fX_change_77 rfl 3 rfl ?_
              obtain ⟨A, X, hm, V, VX⟩ := V
              refine e_callSv (uc' := 0) (us' := 0) (st := []) fX_change_78 wX_change_78 rfl rfl hm (Nat.le_of_ble_eq_true rfl) (by decide) (by decide) (fun h15 ga => ?_) (fun E h15 gx => ?_)
              · have V := V _ ga
                refine e_aload fX_change_81 4 rfl ?_
                obtain ⟨v16, gv16, V⟩ := V
                refine e_get fX_change_83 kX_74 gv16 ?_
                refine e_dup fX_change_86 rfl ?_
                obtain ⟨v17, gv17, V⟩ := V
                refine e_get fX_change_87 kX_88 gv17 ?_
                refine e_iconst (v := 1) fX_change_90 (by decide) ?_
                refine e_iadd fX_change_91 ?_
                obtain ⟨w18, gw18, V⟩ := V
                refine e_put fX_change_92 pX_88 gw18 rfl rfl (fun h19 eh19 => ?_)
                have V := V h19 eh19
                refine e_iconst (v := 1) fX_change_95 (by decide) ?_
                exact e_zret fX_change_96 rfl rfl V
              · exact e_out (by decide) (VX E _ gx)
            refine e_icmp_ne (tgt := 74) fX_change_45 (by decide) (fun z => ?_) (fun z => ?_)
            · have V := V.1 z
              exact Ev.widen (by decide) (by decide) (Ev.loc [1, 2, 3, 4, 0] rfl (KJ14 V))
            · have V := V.2 z
              refine e_aload fX_change_48 0 rfl ?_
              refine e_iconst (v := 2) fX_change_50 (by decide) ?_
              obtain ⟨v21, gv21, V⟩ := V
              obtain ⟨gc, V⟩ := V
              refine e_callVi (uc' := 2) (us' := 12) (st := []) fX_change_51 wX_change_51 rfl rfl gc (sp_L_hasRule gv21) (Nat.le_of_ble_eq_true rfl) (by decide) (by decide) (fun r23 h22 ga => ?_) (fun E h22 gx => False.elim gx)
              obtain ⟨rfl, ge⟩ := ga
              replace ge := ge.symm
              subst ge
              refine e_callSv (uc' := 1) (us' := 6) (st := []) fX_change_54 wX_change_54 rfl rfl sp_X_requireState (Nat.le_of_ble_eq_true rfl) (by decide) (by decide) (fun h25 ga => ?_) (fun E h25 gx => ?_)
              · obtain ⟨rfl, z⟩ := ga
                have V := V.1 z
                refine e_iload_n fX_change_57 rfl 4 rfl ?_
                refine e_aload fX_change_58 0 rfl ?_
                obtain ⟨v26, gv26, V⟩ := V
                refine e_get fX_change_60 kX_116 gv26 ?_
                obtain ⟨J28, VJ28, V⟩ := V
                have KJ28 : ∀ (j27 : Int32), J28 j27 → Ev l G M_X_change 71 [(0, .ref p0), (1, .int p1), (2, .int p2), (3, .int p3), (4, .ref r2)] [.int j27] h5 1 6 (ev_fin G M_X_change P) := by
                  intro j27 hj
                  have V := Eq.mp (congrFun VJ28 j27) hj
                  refine e_callSv (uc' := 0) (us' := 0) (st := []) fX_change_71 wX_change_71 rfl rfl sp_X_requireState (Nat.le_of_ble_eq_true rfl) (by decide) (by decide) (fun h30 ga => ?_) (fun E h30 gx => ?_)
                  · obtain ⟨rfl, z⟩ := ga
                    have V := V.1 z
                    exact Ev.widen (by decide) (by decide) (Ev.loc [0, 1, 2, 3, 4] rfl (KJ14 V))
                  · obtain ⟨rfl, z, rfl⟩ := gx
                    exact e_out (by decide) (V.2 z)
                refine e_icmp_eq (tgt := 70) fX_change_63 (by decide) (fun z => ?_) (fun z => ?_)
                · have V := V.1 z
                  refine e_iconst (v := 0) fX_change_70 (by decide) ?_
                  exact Ev.widen (by decide) (by decide) (Ev.loc [1, 2, 3, 4, 0] rfl (KJ28 _ V))
                · have V := V.2 z
                  refine e_iconst (v := 1) fX_change_66 (by decide) ?_
                  refine e_goto (tgt := 71) fX_change_67 (by decide) ?_
                  exact Ev.widen (by decide) (by decide) (Ev.loc [1, 2, 3, 4, 0] rfl (KJ28 _ V))
              · obtain ⟨rfl, z, rfl⟩ := gx
                exact e_out (by decide) (V.2 z)
          · have V := V.2 z
            refine e_iconst (v := 0) fX_change_41 (by decide) ?_
            exact e_zret fX_change_42 rfl rfl V
        · obtain ⟨rfl, z, rfl⟩ := gx
          exact e_out (by decide) (V.2 z)
      · exact e_out (by decide) (VX E _ gx)
    · obtain ⟨rfl, z, rfl⟩ := gx
      exact e_out (by decide) (V.2 z)
  · exact e_out (by decide) (VX E _ gx)
set_option maxRecDepth 20000 in
theorem vX_move {l : Launch} {G : ev_G} {h : ev_AH} {P : ev_Post} {p0 : Nat} {p1 : Int32} {p2 : Int32} (V : (∃ fs : List Value, h p0 = some (0, fs)) ∧ ∃ (A : Nat → ev_AH → Prop) (X : String → ev_AH → Prop), Mt l G M_X_orderAt [.ref p0, .int p1] h (ev_pr A X) ∧ (∀ (r2 : Nat) (h1 : ev_AH), A r2 h1 → (((¬ p2 < 0 ∧ ¬ 10000 < p2) → ∃ v5 : Int32, ev_f h1 r2 1 6 = some (.int v5) ∧ ((v5 < 4 → ∃ w6 : Value, ev_f h1 r2 1 5 = some w6 ∧ ∀ h7 : ev_AH, h7 = ev_s h1 r2 5 (.int p2) → ∃ v8 : Int32, ev_f h7 r2 1 8 = some (.int v8) ∧ ∃ w9 : Value, ev_f h7 r2 1 8 = some w9 ∧ ∀ h10 : ev_AH, h10 = ev_s h7 r2 8 (.int (v8 + 1)) → P (.inl (some (.int 1))) h10) ∧ (¬ v5 < 4 → P (.inl (some (.int 0))) h1))) ∧ ((p2 < 0 ∨ 10000 < p2) → P (.inr "java/lang/IllegalArgumentException") h1))) ∧ (∀ (E : String) (h9 : ev_AH), X E h9 → P (.inr E) h9)) : Mt l G M_X_move [.ref p0, .int p1, .int p2] h P := by
  refine Mt.of rfl rfl (Nat.le_of_ble_eq_true rfl) ?_
  show Ev l G M_X_move 0 [(0, .ref p0), (1, .int p1), (2, .int p2)] [] h 2 12 (ev_fin G M_X_move P)
  refine e_aload_n fX_move_0 rfl 0 rfl ?_
  refine e_iload_n fX_move_1 rfl 1 rfl ?_
  obtain ⟨gc, V⟩ := V
  obtain ⟨A, X, hm, V, VX⟩ := V
  refine e_callVr (uc' := 1) (us' := 6) (st := []) fX_move_2 wX_move_2 rfl rfl gc hm (Nat.le_of_ble_eq_true rfl) (by decide) (by decide) (fun r2 h1 ga => ?_) (fun E h1 gx => ?_)
  · have V := V _ _ ga
    refine e_astore_n (ls' := [(3, .ref r2), (0, .ref p0), (1, .int p1), (2, .int p2)]) fX_move_5 rfl (by decide) rfl ?_
    refine e_iload_n fX_move_6 rfl 3 rfl ?_
    refine e_iconst (v := 0) fX_move_7 (by decide) ?_
    refine e_sipush (v := 10000) fX_move_8 (by decide) ?_
    refine e_callSv (uc' := 0) (us' := 0) (st := []) fX_move_11 wX_move_11 rfl rfl sp_X_requireRange (Nat.le_of_ble_eq_true rfl) (by decide) (by decide) (fun h4 ga => ?_) (fun E h4 gx => ?_)
    · obtain ⟨rfl, z⟩ := ga
      have V := V.1 z
      refine e_aload_n fX_move_14 rfl 0 rfl ?_
      obtain ⟨v5, gv5, V⟩ := V
      refine e_get fX_move_15 kX_45 gv5 ?_
      refine e_iconst (v := 4) fX_move_18 (by decide) ?_
      refine e_icmp_lt (tgt := 24) fX_move_19 (by decide) (fun z => ?_) (fun z => ?_)
      · have V := V.1 z
        refine e_aload_n fX_move_24 rfl 0 rfl ?_
        refine e_iload_n fX_move_25 rfl 3 rfl ?_
        obtain ⟨w6, gw6, V⟩ := V
        refine e_put fX_move_26 pX_123 gw6 rfl rfl (fun h7 eh7 => ?_)
        have V := V h7 eh7
        refine e_aload_n fX_move_29 rfl 0 rfl ?_
        refine e_dup fX_move_30 rfl ?_
        obtain ⟨v8, gv8, V⟩ := V
        refine e_get fX_move_31 kX_88 gv8 ?_
        refine e_iconst (v := 1) fX_move_34 (by decide) ?_
        refine e_iadd fX_move_35 ?_
        obtain ⟨w9, gw9, V⟩ := V
        refine e_put fX_move_36 pX_88 gw9 rfl rfl (fun h10 eh10 => ?_)
        have V := V h10 eh10
        refine e_iconst (v := 1) fX_move_39 (by decide) ?_
        exact e_zret fX_move_40 rfl rfl V
      · have V := V.2 z
        refine e_iconst (v := 0) fX_move_22 (by decide) ?_
        exact e_zret fX_move_23 rfl rfl V
    · obtain ⟨rfl, z, rfl⟩ := gx
      exact e_out (by decide) (V.2 z)
  · exact e_out (by decide) (VX E _ gx)
set_option maxRecDepth 20000 in
theorem vX_cancel {l : Launch} {G : ev_G} {h : ev_AH} {P : ev_Post} {p0 : Nat} {p1 : Int32} (V : (∃ fs : List Value, h p0 = some (0, fs)) ∧ ∃ (A : Nat → ev_AH → Prop) (X : String → ev_AH → Prop), Mt l G M_X_lineAt [.ref p0, .int p1] h (ev_pr A X) ∧ (∀ (r2 : Nat) (h1 : ev_AH), A r2 h1 → ∃ v3 : Nat, ev_f h1 r2 2 2 = some (.ref v3) ∧ ∃ v4 : Int32, ev_f h1 r2 2 9 = some (.int v4) ∧ ((¬ v4 = 0 → ∃ v7 : Int32, ev_f h1 v3 1 6 = some (.int v7) ∧ ∃ J9 : Int32 → Prop, J9 = (fun (j8 : Int32) => ((¬ j8 = 0 → ∃ v12 : Int32, ev_f h1 r2 2 5 = some (.int v12) ∧ ∃ w13 : Value, ev_f h1 r2 2 9 = some w13 ∧ ∀ h14 : ev_AH, h14 = ev_s h1 r2 9 (.int 0) → ∃ w15 : Value, ev_f h14 r2 2 3 = some w15 ∧ ∀ h16 : ev_AH, h16 = ev_s h14 r2 3 (.int 0) → ∃ w17 : Value, ev_f h16 r2 2 5 = some w17 ∧ ∀ h18 : ev_AH, h18 = ev_s h16 r2 5 (.int 0) → ∃ w19 : Value, ev_f h18 r2 2 6 = some w19 ∧ ∀ h20 : ev_AH, h20 = ev_s h18 r2 6 (.int 0) → ∃ v21 : Int32, ev_f h20 v3 1 8 = some (.int v21) ∧ ∃ w22 : Value, ev_f h20 v3 1 8 = some w22 ∧ ∀ h23 : ev_AH, h23 = ev_s h20 v3 8 (.int (v21 + 1)) → (∃ fs : List Value, h23 v3 = some (1, fs)) ∧ ∃ (A : Int32 → ev_AH → Prop) (X : String → ev_AH → Prop), Mt l G M_O_hasLiveLine [.ref v3] h23 (ev_pi A X) ∧ (∀ (r25 : Int32) (h24 : ev_AH), A r25 h24 → ((¬ r25 = 0 → P (.inl (some (.int v12))) h24) ∧ (r25 = 0 → ∃ w26 : Value, ev_f h24 v3 1 6 = some w26 ∧ ∀ h27 : ev_AH, h27 = ev_s h24 v3 6 (.int 6) → P (.inl (some (.int v12))) h27))) ∧ (∀ (E : String) (h9 : ev_AH), X E h9 → P (.inr E) h9)) ∧ (j8 = 0 → P (.inr "java/lang/IllegalStateException") h1))) ∧ ((2 < v7 → J9 0) ∧ (¬ 2 < v7 → J9 1))) ∧ (v4 = 0 → P (.inr "java/lang/IllegalStateException") h1))) ∧ (∀ (E : String) (h9 : ev_AH), X E h9 → P (.inr E) h9)) : Mt l G M_X_cancel [.ref p0, .int p1] h P := by
  refine Mt.of rfl rfl (Nat.le_of_ble_eq_true rfl) ?_
  show Ev l G M_X_cancel 0 [(0, .ref p0), (1, .int p1)] [] h 3 18 (ev_fin G M_X_cancel P)
  refine e_aload_n fX_cancel_0 rfl 0 rfl ?_
  refine e_iload_n fX_cancel_1 rfl 1 rfl ?_
  obtain ⟨gc, V⟩ := V
  obtain ⟨A, X, hm, V, VX⟩ := V
  refine e_callVr (uc' := 2) (us' := 12) (st := []) fX_cancel_2 wX_cancel_2 rfl rfl gc hm (Nat.le_of_ble_eq_true rfl) (by decide) (by decide) (fun r2 h1 ga => ?_) (fun E h1 gx => ?_)
  · have V := V _ _ ga
    refine e_astore_n (ls' := [(2, .ref r2), (0, .ref p0), (1, .int p1)]) fX_cancel_5 rfl (by decide) rfl ?_
    refine e_aload_n fX_cancel_6 rfl 0 rfl ?_
    obtain ⟨v3, gv3, V⟩ := V
    refine e_get fX_cancel_7 kX_74 gv3 ?_
    refine e_astore_n (ls' := [(3, .ref v3), (2, .ref r2), (0, .ref p0), (1, .int p1)]) fX_cancel_10 rfl (by decide) rfl ?_
    refine e_aload_n fX_cancel_11 rfl 1 rfl ?_
    obtain ⟨v4, gv4, V⟩ := V
    refine e_get fX_cancel_12 kX_78 gv4 ?_
    refine e_callSv (uc' := 1) (us' := 6) (st := []) fX_cancel_15 wX_cancel_15 rfl rfl sp_X_requireState (Nat.le_of_ble_eq_true rfl) (by decide) (by decide) (fun h6 ga => ?_) (fun E h6 gx => ?_)
    · obtain ⟨rfl, z⟩ := ga
      have V := V.1 z
      refine e_aload_n fX_cancel_18 rfl 0 rfl ?_
      obtain ⟨v7, gv7, V⟩ := V
      refine e_get fX_cancel_19 kX_45 gv7 ?_
      refine e_iconst (v := 2) fX_cancel_22 (by decide) ?_
      obtain ⟨J9, VJ9, V⟩ := V
      have KJ9 : ∀ (j8 : Int32), J9 j8 → Ev l G M_X_cancel 31 [(0, .ref p0), (1, .int p1), (2, .ref r2), (3, .ref v3)] [.int j8] h1 1 6 (ev_fin G M_X_cancel P) := by
        intro j8 hj
        have V := Eq.mp (congrFun VJ9 j8) hj
        refine e_callSv (uc' := 0) (us' := 0) (st := []) fX_cancel_31 wX_cancel_31 rfl rfl sp_X_requireState (Nat.le_of_ble_eq_true rfl) (by decide) (by decide) (fun h11 ga => ?_) (fun E h11 gx => ?_)
        · obtain ⟨rfl, z⟩ := ga
          have V := V.1 z
          refine e_aload_n fX_cancel_34 rfl 2 rfl ?_
          obtain ⟨v12, gv12, V⟩ := V
          refine e_get fX_cancel_35 kX_82 gv12 ?_
          refine e_istore (ls' := [(4, .int v12), (0, .ref p0), (1, .int p1), (2, .ref r2), (3, .ref v3)]) fX_cancel_38 (by decide) rfl ?_
          refine e_aload_n fX_cancel_40 rfl 3 rfl ?_
          refine e_iconst (v := 0) fX_cancel_41 (by decide) ?_
          obtain ⟨w13, gw13, V⟩ := V
          refine e_put fX_cancel_42 pX_78 gw13 rfl rfl (fun h14 eh14 => ?_)
          have V := V h14 eh14
          refine e_aload_n fX_cancel_45 rfl 3 rfl ?_
          refine e_iconst (v := 0) fX_cancel_46 (by decide) ?_
          obtain ⟨w15, gw15, V⟩ := V
          refine e_put fX_cancel_47 pX_85 gw15 rfl rfl (fun h16 eh16 => ?_)
          have V := V h16 eh16
          refine e_aload_n fX_cancel_50 rfl 3 rfl ?_
          refine e_iconst (v := 0) fX_cancel_51 (by decide) ?_
          obtain ⟨w17, gw17, V⟩ := V
          refine e_put fX_cancel_52 pX_82 gw17 rfl rfl (fun h18 eh18 => ?_)
          have V := V h18 eh18
          refine e_aload_n fX_cancel_55 rfl 3 rfl ?_
          refine e_iconst (v := 0) fX_cancel_56 (by decide) ?_
          obtain ⟨w19, gw19, V⟩ := V
          refine e_put fX_cancel_57 pX_95 gw19 rfl rfl (fun h20 eh20 => ?_)
          have V := V h20 eh20
          refine e_aload_n fX_cancel_60 rfl 4 rfl ?_
          refine e_dup fX_cancel_61 rfl ?_
          obtain ⟨v21, gv21, V⟩ := V
          refine e_get fX_cancel_62 kX_88 gv21 ?_
          refine e_iconst (v := 1) fX_cancel_65 (by decide) ?_
          refine e_iadd fX_cancel_66 ?_
          obtain ⟨w22, gw22, V⟩ := V
          refine e_put fX_cancel_67 pX_88 gw22 rfl rfl (fun h23 eh23 => ?_)
          have V := V h23 eh23
          refine e_aload_n fX_cancel_70 rfl 4 rfl ?_
          obtain ⟨gc, V⟩ := V
          obtain ⟨A, X, hm, V, VX⟩ := V
          refine e_callVi (uc' := 0) (us' := 0) (st := []) fX_cancel_71 wX_cancel_71 rfl rfl gc hm (Nat.le_of_ble_eq_true rfl) (by decide) (by decide) (fun r25 h24 ga => ?_) (fun E h24 gx => ?_)
          · have V := V _ _ ga
            refine e_if_ne (tgt := 83) fX_cancel_74 (by decide) (fun z => ?_) (fun z => ?_)
            · have V := V.1 z
              refine e_iload fX_cancel_83 0 rfl ?_
              exact e_iret fX_cancel_85 rfl V
            · have V := V.2 z
              refine e_aload_n fX_cancel_77 rfl 4 rfl ?_
              refine e_bipush (v := 6) fX_cancel_78 (by decide) ?_
              obtain ⟨w26, gw26, V⟩ := V
              refine e_put fX_cancel_80 pX_45 gw26 rfl rfl (fun h27 eh27 => ?_)
              have V := V h27 eh27
              refine e_iload fX_cancel_83 0 rfl ?_
              exact e_iret fX_cancel_85 rfl V
          · exact e_out (by decide) (VX E _ gx)
        · obtain ⟨rfl, z, rfl⟩ := gx
          exact e_out (by decide) (V.2 z)
      refine e_icmp_gt (tgt := 30) fX_cancel_23 (by decide) (fun z => ?_) (fun z => ?_)
      · have V := V.1 z
        refine e_iconst (v := 0) fX_cancel_30 (by decide) ?_
        exact Ev.widen (by decide) (by decide) (Ev.loc [2, 3, 1, 0] rfl (KJ9 _ V))
      · have V := V.2 z
        refine e_iconst (v := 1) fX_cancel_26 (by decide) ?_
        refine e_goto (tgt := 31) fX_cancel_27 (by decide) ?_
        exact Ev.widen (by decide) (by decide) (Ev.loc [2, 3, 1, 0] rfl (KJ9 _ V))
    · obtain ⟨rfl, z, rfl⟩ := gx
      exact e_out (by decide) (V.2 z)
  · exact e_out (by decide) (VX E _ gx)
set_option maxRecDepth 20000 in
theorem vX_join {l : Launch} {G : ev_G} {h : ev_AH} {P : ev_Post} {p0 : Nat} {p1 : Int32} {p2 : Int32} (V : (∃ fs : List Value, h p0 = some (0, fs)) ∧ ∃ (A : Nat → ev_AH → Prop) (X : String → ev_AH → Prop), Mt l G M_X_orderAt [.ref p0, .int p1] h (ev_pr A X) ∧ (∀ (r2 : Nat) (h1 : ev_AH), A r2 h1 → (∃ fs : List Value, h1 p0 = some (0, fs)) ∧ ∃ (A : Nat → ev_AH → Prop) (X : String → ev_AH → Prop), Mt l G M_X_orderAt [.ref p0, .int p2] h1 (ev_pr A X) ∧ (∀ (r4 : Nat) (h3 : ev_AH), A r4 h3 → ∃ J6 : Int32 → Prop, J6 = (fun (j5 : Int32) => ((¬ j5 = 0 → ∃ v9 : Int32, ev_f h3 r2 1 6 = some (.int v9) ∧ ∃ J11 : Int32 → Prop, J11 = (fun (j10 : Int32) => ((¬ j10 = 0 → ∃ v14 : Int32, ev_f h3 r2 1 1 = some (.int v14) ∧ ∃ v15 : Int32, ev_f h3 r4 1 1 = some (.int v15) ∧ ∃ J17 : Int32 → Prop, J17 = (fun (j16 : Int32) => ((¬ j16 = 0 → ∃ v21 : Int32, ev_f h3 r2 1 7 = some (.int v21) ∧ (∃ fs : List Value, h3 r2 = some (1, fs)) ∧ ∃ J25 : Int32 → Prop, J25 = (fun (j24 : Int32) => ((¬ j24 = 0 → ∃ v28 : Nat, ev_f h3 r2 1 4 = some (.ref v28) ∧ ∃ v30 : Int32, ev_f h3 v28 3 1 = some (.int v30) ∧ (∃ fs : List Value, h3 v28 = some (3, fs)) ∧ ∃ v33 : Nat, ev_f h3 r4 1 4 = some (.ref v33) ∧ ∃ v35 : Int32, ev_f h3 v33 3 1 = some (.int v35) ∧ (∃ fs : List Value, h3 v33 = some (3, fs)) ∧ ∃ J39 : Int32 → Prop, J39 = (fun (j38 : Int32) => ((¬ j38 = 0 → (∃ fs : List Value, h3 r2 = some (1, fs)) ∧ ∃ (A : ev_AH → Prop) (X : String → ev_AH → Prop), Mt l G M_O_takeLinesOf [.ref r2, .ref r4] h3 (ev_pv A X) ∧ (∀ h42 : ev_AH, A h42 → ∃ w43 : Value, ev_f h42 r4 1 6 = some w43 ∧ ∀ h44 : ev_AH, h44 = ev_s h42 r4 6 (.int 7) → ∃ v45 : Int32, ev_f h44 r2 1 0 = some (.int v45) ∧ ∃ w46 : Value, ev_f h44 r4 1 9 = some w46 ∧ ∀ h47 : ev_AH, h47 = ev_s h44 r4 9 (.int v45) → ∃ v48 : Int32, ev_f h47 r2 1 8 = some (.int v48) ∧ ∃ w49 : Value, ev_f h47 r2 1 8 = some w49 ∧ ∀ h50 : ev_AH, h50 = ev_s h47 r2 8 (.int (v48 + 1)) → ∃ v51 : Int32, ev_f h50 r4 1 8 = some (.int v51) ∧ ∃ w52 : Value, ev_f h50 r4 1 8 = some w52 ∧ ∀ h53 : ev_AH, h53 = ev_s h50 r4 8 (.int (v51 + 1)) → P (.inl none) h53) ∧ (∀ (E : String) (h9 : ev_AH), X E h9 → P (.inr E) h9)) ∧ (j38 = 0 → P (.inr "java/lang/UnsupportedOperationException") h3))) ∧ ((8 < (v30 + v35) → J39 0) ∧ (¬ 8 < (v30 + v35) → J39 1))) ∧ (j24 = 0 → P (.inr "java/lang/IllegalStateException") h3))) ∧ ((¬ (ev_b (¬ v21 = 0)) = 0 → J25 0) ∧ ((ev_b (¬ v21 = 0)) = 0 → ∃ v55 : Int32, ev_f h3 r4 1 7 = some (.int v55) ∧ (∃ fs : List Value, h3 r4 = some (1, fs)) ∧ ((¬ (ev_b (¬ v55 = 0)) = 0 → J25 0) ∧ ((ev_b (¬ v55 = 0)) = 0 → J25 1))))) ∧ (j16 = 0 → P (.inr "java/lang/IllegalStateException") h3))) ∧ ((¬ v14 = v15 → J17 0) ∧ (v14 = v15 → J17 1))) ∧ (j10 = 0 → P (.inr "java/lang/IllegalStateException") h3))) ∧ ((¬ v9 = 0 → J11 0) ∧ (v9 = 0 → ∃ v58 : Int32, ev_f h3 r4 1 6 = some (.int v58) ∧ ((¬ v58 = 0 → J11 0) ∧ (v58 = 0 → J11 1))))) ∧ (j5 = 0 → P (.inr "java/lang/IllegalStateException") h3))) ∧ ((r2 = r4 → J6 0) ∧ (¬ r2 = r4 → J6 1))) ∧ (∀ (E : String) (h9 : ev_AH), X E h9 → P (.inr E) h9)) ∧ (∀ (E : String) (h9 : ev_AH), X E h9 → P (.inr E) h9)) : Mt l G M_X_join [.ref p0, .int p1, .int p2] h P := by
  refine Mt.of rfl rfl (Nat.le_of_ble_eq_true rfl) ?_
  show Ev l G M_X_join 0 [(0, .ref p0), (1, .int p1), (2, .int p2)] [] h 23 842 (ev_fin G M_X_join P)
  refine e_aload_n fX_join_0 rfl 0 rfl ?_
  refine e_iload_n fX_join_1 rfl 1 rfl ?_
  obtain ⟨gc, V⟩ := V
  obtain ⟨A, X, hm, V, VX⟩ := V
  refine e_callVr (uc' := 22) (us' := 836) (st := []) fX_join_2 wX_join_2 rfl rfl gc hm (Nat.le_of_ble_eq_true rfl) (by decide) (by decide) (fun r2 h1 ga => ?_) (fun E h1 gx => ?_)
  · have V := V _ _ ga
    refine e_astore_n (ls' := [(3, .ref r2), (0, .ref p0), (1, .int p1), (2, .int p2)]) fX_join_5 rfl (by decide) rfl ?_
    refine e_aload_n fX_join_6 rfl 1 rfl ?_
    refine e_iload_n fX_join_7 rfl 3 rfl ?_
    obtain ⟨gc, V⟩ := V
    obtain ⟨A, X, hm, V, VX⟩ := V
    refine e_callVr (uc' := 21) (us' := 830) (st := []) fX_join_8 wX_join_8 rfl rfl gc hm (Nat.le_of_ble_eq_true rfl) (by decide) (by decide) (fun r4 h3 ga => ?_) (fun E h3 gx => ?_)
    · have V := V _ _ ga
      refine e_astore (ls' := [(4, .ref r4), (3, .ref r2), (0, .ref p0), (1, .int p1), (2, .int p2)]) fX_join_11 (by decide) rfl ?_
      refine e_aload_n fX_join_13 rfl 1 rfl ?_
      refine e_aload fX_join_14 0 rfl ?_
      obtain ⟨J6, VJ6, V⟩ := V
      have KJ6 : ∀ (j5 : Int32), J6 j5 → Ev l G M_X_join 24 [(0, .ref p0), (1, .int p1), (2, .int p2), (3, .ref r2), (4, .ref r4)] [.int j5] h3 21 830 (ev_fin G M_X_join P) := by
        intro j5 hj
        have V := Eq.mp (congrFun VJ6 j5) hj
        refine e_callSv (uc' := 20) (us' := 824) (st := []) fX_join_24 wX_join_24 rfl rfl sp_X_requireState (Nat.le_of_ble_eq_true rfl) (by decide) (by decide) (fun h8 ga => ?_) (fun E h8 gx => ?_)
        · obtain ⟨rfl, z⟩ := ga
          have V := V.1 z
          refine e_aload_n fX_join_27 rfl 3 rfl ?_
          obtain ⟨v9, gv9, V⟩ := V
          refine e_get fX_join_28 kX_45 gv9 ?_
          obtain ⟨J11, VJ11, V⟩ := V
          have KJ11 : ∀ (j10 : Int32), J11 j10 → Ev l G M_X_join 47 [(0, .ref p0), (1, .int p1), (2, .int p2), (3, .ref r2), (4, .ref r4)] [.int j10] h3 20 824 (ev_fin G M_X_join P) := by
            intro j10 hj
            have V := Eq.mp (congrFun VJ11 j10) hj
            refine e_callSv (uc' := 19) (us' := 818) (st := []) fX_join_47 wX_join_47 rfl rfl sp_X_requireState (Nat.le_of_ble_eq_true rfl) (by decide) (by decide) (fun h13 ga => ?_) (fun E h13 gx => ?_)
            · obtain ⟨rfl, z⟩ := ga
              have V := V.1 z
              refine e_aload_n fX_join_50 rfl 3 rfl ?_
              obtain ⟨v14, gv14, V⟩ := V
              refine e_get fX_join_51 kX_129 gv14 ?_
              refine e_aload fX_join_54 4 rfl ?_
              obtain ⟨v15, gv15, V⟩ := V
              refine e_get fX_join_56 kX_129 gv15 ?_
              obtain ⟨J17, VJ17, V⟩ := V
              have KJ17 : ∀ (j16 : Int32), J17 j16 → Ev l G M_X_join 67 [(0, .ref p0), (1, .int p1), (2, .int p2), (3, .ref r2), (4, .ref r4)] [.int j16] h3 19 818 (ev_fin G M_X_join P) := by
                intro j16 hj
                have V := Eq.mp (congrFun VJ17 j16) hj
                refine e_callSv (uc' := 18) (us' := 812) (st := []) fX_join_67 wX_join_67 rfl rfl sp_X_requireState (Nat.le_of_ble_eq_true rfl) (by decide) (by decide) (fun h19 ga => ?_) (fun E h19 gx => ?_)
                · obtain ⟨rfl, z⟩ := ga
                  have V := V.1 z
                  refine e_aload_n fX_join_70 rfl 3 rfl ?_
                  obtain ⟨v21, gv21, V⟩ := V
                  obtain ⟨gc, V⟩ := V
                  refine e_callVi (uc' := 18) (us' := 812) (st := []) fX_join_71 wX_join_71 rfl rfl gc (sp_O_isBlocked gv21) (Nat.le_of_ble_eq_true rfl) (by decide) (by decide) (fun r23 h22 ga => ?_) (fun E h22 gx => False.elim gx)
                  obtain ⟨rfl, ge⟩ := ga
                  replace ge := ge.symm
                  subst ge
                  obtain ⟨J25, VJ25, V⟩ := V
                  have KJ25 : ∀ (j24 : Int32), J25 j24 → Ev l G M_X_join 90 [(0, .ref p0), (1, .int p1), (2, .int p2), (3, .ref r2), (4, .ref r4)] [.int j24] h3 18 812 (ev_fin G M_X_join P) := by
                    intro j24 hj
                    have V := Eq.mp (congrFun VJ25 j24) hj
                    refine e_callSv (uc' := 17) (us' := 806) (st := []) fX_join_90 wX_join_90 rfl rfl sp_X_requireState (Nat.le_of_ble_eq_true rfl) (by decide) (by decide) (fun h27 ga => ?_) (fun E h27 gx => ?_)
                    · obtain ⟨rfl, z⟩ := ga
                      have V := V.1 z
                      refine e_aload_n fX_join_93 rfl 3 rfl ?_
                      obtain ⟨v28, gv28, V⟩ := V
                      refine e_get fX_join_94 kX_52 gv28 ?_
                      obtain ⟨v30, gv30, V⟩ := V
                      obtain ⟨gc, V⟩ := V
                      refine e_callVi (uc' := 17) (us' := 806) (st := []) fX_join_97 wX_join_97 rfl rfl gc (sp_A_size gv30) (Nat.le_of_ble_eq_true rfl) (by decide) (by decide) (fun r32 h31 ga => ?_) (fun E h31 gx => False.elim gx)
                      obtain ⟨rfl, ge⟩ := ga
                      replace ge := ge.symm
                      subst ge
                      refine e_aload fX_join_100 4 rfl ?_
                      obtain ⟨v33, gv33, V⟩ := V
                      refine e_get fX_join_102 kX_52 gv33 ?_
                      obtain ⟨v35, gv35, V⟩ := V
                      obtain ⟨gc, V⟩ := V
                      refine e_callVi (uc' := 17) (us' := 806) (st := [.int v30]) fX_join_105 wX_join_105 rfl rfl gc (sp_A_size gv35) (Nat.le_of_ble_eq_true rfl) (by decide) (by decide) (fun r37 h36 ga => ?_) (fun E h36 gx => False.elim gx)
                      obtain ⟨rfl, ge⟩ := ga
                      replace ge := ge.symm
                      subst ge
                      refine e_iadd fX_join_108 ?_
                      refine e_bipush (v := 8) fX_join_109 (by decide) ?_
                      obtain ⟨J39, VJ39, V⟩ := V
                      have KJ39 : ∀ (j38 : Int32), J39 j38 → Ev l G M_X_join 119 [(0, .ref p0), (1, .int p1), (2, .int p2), (3, .ref r2), (4, .ref r4)] [.int j38] h3 17 806 (ev_fin G M_X_join P) := by
                        intro j38 hj
                        have V := Eq.mp (congrFun VJ39 j38) hj
                        refine e_callSv (uc' := 16) (us' := 800) (st := []) fX_join_119 wX_join_119 rfl rfl sp_X_requireRoom (Nat.le_of_ble_eq_true rfl) (by decide) (by decide) (fun h41 ga => ?_) (fun E h41 gx => ?_)
                        · obtain ⟨rfl, z⟩ := ga
                          have V := V.1 z
                          refine e_aload_n fX_join_122 rfl 3 rfl ?_
                          refine e_aload fX_join_123 4 rfl ?_
                          obtain ⟨gc, V⟩ := V
                          obtain ⟨A, X, hm, V, VX⟩ := V
                          refine e_callVv (uc' := 0) (us' := 0) (st := []) fX_join_125 wX_join_125 rfl rfl gc hm (Nat.le_of_ble_eq_true rfl) (by decide) (by decide) (fun h42 ga => ?_) (fun E h42 gx => ?_)
                          · have V := V _ ga
                            refine e_aload fX_join_128 4 rfl ?_
                            refine e_bipush (v := 7) fX_join_130 (by decide) ?_
                            obtain ⟨w43, gw43, V⟩ := V
                            refine e_put fX_join_132 pX_45 gw43 rfl rfl (fun h44 eh44 => ?_)
                            have V := V h44 eh44
                            refine e_aload fX_join_135 4 rfl ?_
                            refine e_aload_n fX_join_137 rfl 3 rfl ?_
                            obtain ⟨v45, gv45, V⟩ := V
                            refine e_get fX_join_138 kX_35 gv45 ?_
                            obtain ⟨w46, gw46, V⟩ := V
                            refine e_put fX_join_141 pX_136 gw46 rfl rfl (fun h47 eh47 => ?_)
                            have V := V h47 eh47
                            refine e_aload_n fX_join_144 rfl 3 rfl ?_
                            refine e_dup fX_join_145 rfl ?_
                            obtain ⟨v48, gv48, V⟩ := V
                            refine e_get fX_join_146 kX_88 gv48 ?_
                            refine e_iconst (v := 1) fX_join_149 (by decide) ?_
                            refine e_iadd fX_join_150 ?_
                            obtain ⟨w49, gw49, V⟩ := V
                            refine e_put fX_join_151 pX_88 gw49 rfl rfl (fun h50 eh50 => ?_)
                            have V := V h50 eh50
                            refine e_aload fX_join_154 4 rfl ?_
                            refine e_dup fX_join_156 rfl ?_
                            obtain ⟨v51, gv51, V⟩ := V
                            refine e_get fX_join_157 kX_88 gv51 ?_
                            refine e_iconst (v := 1) fX_join_160 (by decide) ?_
                            refine e_iadd fX_join_161 ?_
                            obtain ⟨w52, gw52, V⟩ := V
                            refine e_put fX_join_162 pX_88 gw52 rfl rfl (fun h53 eh53 => ?_)
                            have V := V h53 eh53
                            exact e_vret fX_join_165 rfl V
                          · exact e_out (by decide) (VX E _ gx)
                        · obtain ⟨rfl, z, rfl⟩ := gx
                          exact e_out (by decide) (V.2 z)
                      refine e_icmp_gt (tgt := 118) fX_join_111 (by decide) (fun z => ?_) (fun z => ?_)
                      · have V := V.1 z
                        refine e_iconst (v := 0) fX_join_118 (by decide) ?_
                        exact Ev.widen (by decide) (by decide) (Ev.loc [0, 1, 2, 3, 4] rfl (KJ39 _ V))
                      · have V := V.2 z
                        refine e_iconst (v := 1) fX_join_114 (by decide) ?_
                        refine e_goto (tgt := 119) fX_join_115 (by decide) ?_
                        exact Ev.widen (by decide) (by decide) (Ev.loc [0, 1, 2, 3, 4] rfl (KJ39 _ V))
                    · obtain ⟨rfl, z, rfl⟩ := gx
                      exact e_out (by decide) (V.2 z)
                  refine e_if_ne (tgt := 89) fX_join_74 (by decide) (fun z => ?_) (fun z => ?_)
                  · have V := V.1 z
                    refine e_iconst (v := 0) fX_join_89 (by decide) ?_
                    exact Ev.widen (by decide) (by decide) (Ev.loc [0, 1, 2, 3, 4] rfl (KJ25 _ V))
                  · have V := V.2 z
                    refine e_aload fX_join_77 4 rfl ?_
                    obtain ⟨v55, gv55, V⟩ := V
                    obtain ⟨gc, V⟩ := V
                    refine e_callVi (uc' := 18) (us' := 812) (st := []) fX_join_79 wX_join_79 rfl rfl gc (sp_O_isBlocked gv55) (Nat.le_of_ble_eq_true rfl) (by decide) (by decide) (fun r57 h56 ga => ?_) (fun E h56 gx => False.elim gx)
                    obtain ⟨rfl, ge⟩ := ga
                    replace ge := ge.symm
                    subst ge
                    refine e_if_ne (tgt := 89) fX_join_82 (by decide) (fun z => ?_) (fun z => ?_)
                    · have V := V.1 z
                      refine e_iconst (v := 0) fX_join_89 (by decide) ?_
                      exact Ev.widen (by decide) (by decide) (Ev.loc [0, 1, 2, 3, 4] rfl (KJ25 _ V))
                    · have V := V.2 z
                      refine e_iconst (v := 1) fX_join_85 (by decide) ?_
                      refine e_goto (tgt := 90) fX_join_86 (by decide) ?_
                      exact Ev.widen (by decide) (by decide) (Ev.loc [0, 1, 2, 3, 4] rfl (KJ25 _ V))
                · obtain ⟨rfl, z, rfl⟩ := gx
                  exact e_out (by decide) (V.2 z)
              refine e_icmp_ne (tgt := 66) fX_join_59 (by decide) (fun z => ?_) (fun z => ?_)
              · have V := V.1 z
                refine e_iconst (v := 0) fX_join_66 (by decide) ?_
                exact Ev.widen (by decide) (by decide) (Ev.loc [0, 1, 2, 3, 4] rfl (KJ17 _ V))
              · have V := V.2 z
                refine e_iconst (v := 1) fX_join_62 (by decide) ?_
                refine e_goto (tgt := 67) fX_join_63 (by decide) ?_
                exact Ev.widen (by decide) (by decide) (Ev.loc [0, 1, 2, 3, 4] rfl (KJ17 _ V))
            · obtain ⟨rfl, z, rfl⟩ := gx
              exact e_out (by decide) (V.2 z)
          refine e_if_ne (tgt := 46) fX_join_31 (by decide) (fun z => ?_) (fun z => ?_)
          · have V := V.1 z
            refine e_iconst (v := 0) fX_join_46 (by decide) ?_
            exact Ev.widen (by decide) (by decide) (Ev.loc [0, 1, 2, 3, 4] rfl (KJ11 _ V))
          · have V := V.2 z
            refine e_aload fX_join_34 4 rfl ?_
            obtain ⟨v58, gv58, V⟩ := V
            refine e_get fX_join_36 kX_45 gv58 ?_
            refine e_if_ne (tgt := 46) fX_join_39 (by decide) (fun z => ?_) (fun z => ?_)
            · have V := V.1 z
              refine e_iconst (v := 0) fX_join_46 (by decide) ?_
              exact Ev.widen (by decide) (by decide) (Ev.loc [0, 1, 2, 3, 4] rfl (KJ11 _ V))
            · have V := V.2 z
              refine e_iconst (v := 1) fX_join_42 (by decide) ?_
              refine e_goto (tgt := 47) fX_join_43 (by decide) ?_
              exact Ev.widen (by decide) (by decide) (Ev.loc [0, 1, 2, 3, 4] rfl (KJ11 _ V))
        · obtain ⟨rfl, z, rfl⟩ := gx
          exact e_out (by decide) (V.2 z)
      refine e_acmp_eq (tgt := 23) fX_join_16 (by decide) (fun z => ?_) (fun z => ?_)
      · have V := V.1 z
        refine e_iconst (v := 0) fX_join_23 (by decide) ?_
        exact Ev.widen (by decide) (by decide) (Ev.loc [2, 3, 4, 1, 0] rfl (KJ6 _ V))
      · have V := V.2 z
        refine e_iconst (v := 1) fX_join_19 (by decide) ?_
        refine e_goto (tgt := 24) fX_join_20 (by decide) ?_
        exact Ev.widen (by decide) (by decide) (Ev.loc [2, 3, 4, 1, 0] rfl (KJ6 _ V))
    · exact e_out (by decide) (VX E _ gx)
  · exact e_out (by decide) (VX E _ gx)
set_option maxRecDepth 20000 in
theorem vX_block {l : Launch} {G : ev_G} {h : ev_AH} {P : ev_Post} {p0 : Nat} {p1 : Int32} {p2 : Int32} {p3 : Int32} (V : (∃ fs : List Value, h p0 = some (0, fs)) ∧ ∃ (A : Nat → ev_AH → Prop) (X : String → ev_AH → Prop), Mt l G M_X_orderAt [.ref p0, .int p1] h (ev_pr A X) ∧ (∀ (r2 : Nat) (h1 : ev_AH), A r2 h1 → (((¬ p2 < 0 ∧ ¬ 7 < p2) → ∃ v5 : Int32, ev_f h1 r2 1 6 = some (.int v5) ∧ ∃ J7 : Int32 → Prop, J7 = (fun (j6 : Int32) => ((¬ j6 = 0 → ∀ x10 : Int32, x10 = 1 <<< (p2 &&& 31) → ∃ v11 : Int32, ev_f h1 r2 1 7 = some (.int v11) ∧ ∃ J13 : Int32 → Prop, J13 = (fun (j12 : Int32) => ∃ J15 : Int32 → Prop, J15 = (fun (j14 : Int32) => ((¬ j14 = 0 → ∃ v18 : Int32, ev_f h1 r2 1 7 = some (.int v18) ∧ ∃ w19 : Value, ev_f h1 r2 1 7 = some w19 ∧ ∀ h20 : ev_AH, h20 = ev_s h1 r2 7 (.int (v18 ^^^ x10)) → ∃ v21 : Int32, ev_f h20 r2 1 8 = some (.int v21) ∧ ∃ w22 : Value, ev_f h20 r2 1 8 = some w22 ∧ ∀ h23 : ev_AH, h23 = ev_s h20 r2 8 (.int (v21 + 1)) → ∃ v24 : Int32, ev_f h23 r2 1 7 = some (.int v24) ∧ ∃ (A : Int32 → ev_AH → Prop) (X : String → ev_AH → Prop), Mt l G M_Ji_bitCount [.int v24] h23 (ev_pi A X) ∧ (∀ (r26 : Int32) (h25 : ev_AH), A r26 h25 → P (.inl (some (.int r26))) h25) ∧ (∀ (E : String) (h9 : ev_AH), X E h9 → P (.inr E) h9)) ∧ (j14 = 0 → P (.inr "java/lang/IllegalStateException") h1))) ∧ ((j12 = p3 → J15 0) ∧ (¬ j12 = p3 → J15 1))) ∧ (((v11 &&& x10) = 0 → J13 0) ∧ (¬ (v11 &&& x10) = 0 → J13 1))) ∧ (j6 = 0 → P (.inr "java/lang/IllegalStateException") h1))) ∧ ((4 ≤ v5 → J7 0) ∧ (¬ 4 ≤ v5 → J7 1))) ∧ ((p2 < 0 ∨ 7 < p2) → P (.inr "java/lang/IllegalArgumentException") h1))) ∧ (∀ (E : String) (h9 : ev_AH), X E h9 → P (.inr E) h9)) : Mt l G M_X_block [.ref p0, .int p1, .int p2, .int p3] h P := by
  refine Mt.of rfl rfl (Nat.le_of_ble_eq_true rfl) ?_
  show Ev l G M_X_block 0 [(0, .ref p0), (1, .int p1), (2, .int p2), (3, .int p3)] [] h 4 24 (ev_fin G M_X_block P)
  refine e_aload_n fX_block_0 rfl 0 rfl ?_
  refine e_iload_n fX_block_1 rfl 1 rfl ?_
  obtain ⟨gc, V⟩ := V
  obtain ⟨A, X, hm, V, VX⟩ := V
  refine e_callVr (uc' := 3) (us' := 18) (st := []) fX_block_2 wX_block_2 rfl rfl gc hm (Nat.le_of_ble_eq_true rfl) (by decide) (by decide) (fun r2 h1 ga => ?_) (fun E h1 gx => ?_)
  · have V := V _ _ ga
    refine e_astore (ls' := [(4, .ref r2), (0, .ref p0), (1, .int p1), (2, .int p2), (3, .int p3)]) fX_block_5 (by decide) rfl ?_
    refine e_iload_n fX_block_7 rfl 3 rfl ?_
    refine e_iconst (v := 0) fX_block_8 (by decide) ?_
    refine e_bipush (v := 7) fX_block_9 (by decide) ?_
    refine e_callSv (uc' := 2) (us' := 12) (st := []) fX_block_11 wX_block_11 rfl rfl sp_X_requireRange (Nat.le_of_ble_eq_true rfl) (by decide) (by decide) (fun h4 ga => ?_) (fun E h4 gx => ?_)
    · obtain ⟨rfl, z⟩ := ga
      have V := V.1 z
      refine e_aload fX_block_14 0 rfl ?_
      obtain ⟨v5, gv5, V⟩ := V
      refine e_get fX_block_16 kX_45 gv5 ?_
      refine e_iconst (v := 4) fX_block_19 (by decide) ?_
      obtain ⟨J7, VJ7, V⟩ := V
      have KJ7 : ∀ (j6 : Int32), J7 j6 → Ev l G M_X_block 28 [(0, .ref p0), (1, .int p1), (2, .int p2), (3, .int p3), (4, .ref r2)] [.int j6] h1 2 12 (ev_fin G M_X_block P) := by
        intro j6 hj
        have V := Eq.mp (congrFun VJ7 j6) hj
        refine e_callSv (uc' := 1) (us' := 6) (st := []) fX_block_28 wX_block_28 rfl rfl sp_X_requireState (Nat.le_of_ble_eq_true rfl) (by decide) (by decide) (fun h9 ga => ?_) (fun E h9 gx => ?_)
        · obtain ⟨rfl, z⟩ := ga
          have V := V.1 z
          refine e_iconst (v := 1) fX_block_31 (by decide) ?_
          refine e_iload_n fX_block_32 rfl 2 rfl ?_
          refine e_ishl fX_block_33 ?_
          refine e_topi (fun x10 ex10 => ?_)
          have V := V x10 ex10
          refine e_istore (ls' := [(5, .int x10), (0, .ref p0), (1, .int p1), (2, .int p2), (3, .int p3), (4, .ref r2)]) fX_block_34 (by decide) rfl ?_
          refine e_aload fX_block_36 5 rfl ?_
          obtain ⟨v11, gv11, V⟩ := V
          refine e_get fX_block_38 kX_139 gv11 ?_
          refine e_iload fX_block_41 0 rfl ?_
          refine e_iand fX_block_43 ?_
          obtain ⟨J13, VJ13, V⟩ := V
          have KJ13 : ∀ (j12 : Int32), J13 j12 → Ev l G M_X_block 52 [(0, .ref p0), (1, .int p1), (2, .int p2), (3, .int p3), (4, .ref r2), (5, .int x10)] [.int j12] h1 1 6 (ev_fin G M_X_block P) := by
            intro j12 hj
            have V := Eq.mp (congrFun VJ13 j12) hj
            refine e_istore (ls' := [(6, .int j12), (0, .ref p0), (1, .int p1), (2, .int p2), (3, .int p3), (4, .ref r2), (5, .int x10)]) fX_block_52 (by decide) rfl ?_
            refine e_iload fX_block_54 0 rfl ?_
            refine e_iload_n fX_block_56 rfl 4 rfl ?_
            obtain ⟨J15, VJ15, V⟩ := V
            have KJ15 : ∀ (j14 : Int32), J15 j14 → Ev l G M_X_block 65 [(0, .ref p0), (1, .int p1), (2, .int p2), (3, .int p3), (4, .ref r2), (5, .int x10), (6, .int j12)] [.int j14] h1 1 6 (ev_fin G M_X_block P) := by
              intro j14 hj
              have V := Eq.mp (congrFun VJ15 j14) hj
              refine e_callSv (uc' := 0) (us' := 0) (st := []) fX_block_65 wX_block_65 rfl rfl sp_X_requireState (Nat.le_of_ble_eq_true rfl) (by decide) (by decide) (fun h17 ga => ?_) (fun E h17 gx => ?_)
              · obtain ⟨rfl, z⟩ := ga
                have V := V.1 z
                refine e_aload fX_block_68 4 rfl ?_
                refine e_dup fX_block_70 rfl ?_
                obtain ⟨v18, gv18, V⟩ := V
                refine e_get fX_block_71 kX_139 gv18 ?_
                refine e_iload fX_block_74 5 rfl ?_
                refine e_ixor fX_block_76 ?_
                obtain ⟨w19, gw19, V⟩ := V
                refine e_put fX_block_77 pX_139 gw19 rfl rfl (fun h20 eh20 => ?_)
                have V := V h20 eh20
                refine e_aload fX_block_80 4 rfl ?_
                refine e_dup fX_block_82 rfl ?_
                obtain ⟨v21, gv21, V⟩ := V
                refine e_get fX_block_83 kX_88 gv21 ?_
                refine e_iconst (v := 1) fX_block_86 (by decide) ?_
                refine e_iadd fX_block_87 ?_
                obtain ⟨w22, gw22, V⟩ := V
                refine e_put fX_block_88 pX_88 gw22 rfl rfl (fun h23 eh23 => ?_)
                have V := V h23 eh23
                refine e_aload fX_block_91 4 rfl ?_
                obtain ⟨v24, gv24, V⟩ := V
                refine e_get fX_block_93 kX_139 gv24 ?_
                obtain ⟨A, X, hm, V, VX⟩ := V
                refine e_callSi (uc' := 0) (us' := 0) (st := []) fX_block_96 wX_block_96 rfl rfl hm (Nat.le_of_ble_eq_true rfl) (by decide) (by decide) (fun r26 h25 ga => ?_) (fun E h25 gx => ?_)
                · have V := V _ _ ga
                  exact e_iret fX_block_99 rfl V
                · exact e_out (by decide) (VX E _ gx)
              · obtain ⟨rfl, z, rfl⟩ := gx
                exact e_out (by decide) (V.2 z)
            refine e_icmp_eq (tgt := 64) fX_block_57 (by decide) (fun z => ?_) (fun z => ?_)
            · have V := V.1 z
              refine e_iconst (v := 0) fX_block_64 (by decide) ?_
              exact Ev.widen (by decide) (by decide) (Ev.loc [1, 2, 3, 4, 5, 6, 0] rfl (KJ15 _ V))
            · have V := V.2 z
              refine e_iconst (v := 1) fX_block_60 (by decide) ?_
              refine e_goto (tgt := 65) fX_block_61 (by decide) ?_
              exact Ev.widen (by decide) (by decide) (Ev.loc [1, 2, 3, 4, 5, 6, 0] rfl (KJ15 _ V))
          refine e_if_eq (tgt := 51) fX_block_44 (by decide) (fun z => ?_) (fun z => ?_)
          · have V := V.1 z
            refine e_iconst (v := 0) fX_block_51 (by decide) ?_
            exact Ev.widen (by decide) (by decide) (Ev.loc [1, 2, 3, 4, 5, 0] rfl (KJ13 _ V))
          · have V := V.2 z
            refine e_iconst (v := 1) fX_block_47 (by decide) ?_
            refine e_goto (tgt := 52) fX_block_48 (by decide) ?_
            exact Ev.widen (by decide) (by decide) (Ev.loc [1, 2, 3, 4, 5, 0] rfl (KJ13 _ V))
        · obtain ⟨rfl, z, rfl⟩ := gx
          exact e_out (by decide) (V.2 z)
      refine e_icmp_ge (tgt := 27) fX_block_20 (by decide) (fun z => ?_) (fun z => ?_)
      · have V := V.1 z
        refine e_iconst (v := 0) fX_block_27 (by decide) ?_
        exact Ev.widen (by decide) (by decide) (Ev.loc [1, 2, 3, 4, 0] rfl (KJ7 _ V))
      · have V := V.2 z
        refine e_iconst (v := 1) fX_block_23 (by decide) ?_
        refine e_goto (tgt := 28) fX_block_24 (by decide) ?_
        exact Ev.widen (by decide) (by decide) (Ev.loc [1, 2, 3, 4, 0] rfl (KJ7 _ V))
    · obtain ⟨rfl, z, rfl⟩ := gx
      exact e_out (by decide) (V.2 z)
  · exact e_out (by decide) (VX E _ gx)
set_option maxRecDepth 20000 in
theorem vX_backorder {l : Launch} {G : ev_G} {h : ev_AH} {P : ev_Post} {p0 : Nat} {p1 : Int32} (V : (∃ fs : List Value, h p0 = some (0, fs)) ∧ ∃ (A : Nat → ev_AH → Prop) (X : String → ev_AH → Prop), Mt l G M_X_lineAt [.ref p0, .int p1] h (ev_pr A X) ∧ (∀ (r2 : Nat) (h1 : ev_AH), A r2 h1 → ∃ v3 : Nat, ev_f h1 r2 2 2 = some (.ref v3) ∧ ∃ v4 : Int32, ev_f h1 v3 1 6 = some (.int v4) ∧ ∃ J6 : Int32 → Prop, J6 = (fun (j5 : Int32) => ((¬ j5 = 0 → ∃ v10 : Int32, ev_f h1 r2 2 3 = some (.int v10) ∧ ∃ v11 : Int32, ev_f h1 r2 2 4 = some (.int v11) ∧ ∃ v12 : Int32, ev_f h1 r2 2 7 = some (.int v12) ∧ ∃ v13 : Int32, ev_f h1 r2 2 9 = some (.int v13) ∧ ∃ v14 : Int32, ev_f h1 r2 2 10 = some (.int v14) ∧ (∃ fs : List Value, h1 r2 = some (2, fs)) ∧ ((¬ (ev_b (¬ v13 = 0 ∧ ¬ (v11 &&& 4) = 0 ∧ 0 < v10 - v12 ∧ v14 = 0)) = 0 → (∃ fs : List Value, h1 p0 = some (0, fs)) ∧ ∃ (A : ev_AH → Prop) (X : String → ev_AH → Prop), Mt l G M_X_requireRoomForOrder [.ref p0] h1 (ev_pv A X) ∧ (∀ h19 : ev_AH, A h19 → (∃ fs : List Value, h19 p0 = some (0, fs)) ∧ ∃ (A : ev_AH → Prop) (X : String → ev_AH → Prop), Mt l G M_X_requireRoomForLine [.ref p0] h19 (ev_pv A X) ∧ (∀ h20 : ev_AH, A h20 → ∃ v21 : Int32, ev_f h20 v3 1 1 = some (.int v21) ∧ ∃ v22 : Int32, ev_f h20 v3 1 3 = some (.int v22) ∧ ∃ v23 : Int32, ev_f h20 v3 1 5 = some (.int v23) ∧ (∃ fs : List Value, h20 p0 = some (0, fs)) ∧ ∃ (A : Nat → ev_AH → Prop) (X : String → ev_AH → Prop), Mt l G M_X_addOrder [.ref p0, .int v21, .int 0, .int v22, .int v23] h20 (ev_pr A X) ∧ (∀ (r25 : Nat) (h24 : ev_AH), A r25 h24 → ∃ v26 : Int32, ev_f h24 r2 2 1 = some (.int v26) ∧ ∃ v28 : Int32, ev_f h24 r2 2 3 = some (.int v28) ∧ ∃ v29 : Int32, ev_f h24 r2 2 7 = some (.int v29) ∧ (∃ fs : List Value, h24 r2 = some (2, fs)) ∧ ∃ v32 : Int32, ev_f h24 r2 2 4 = some (.int v32) ∧ (∃ fs : List Value, h24 p0 = some (0, fs)) ∧ ∃ (A : Nat → ev_AH → Prop) (X : String → ev_AH → Prop), Mt l G M_X_addLine [.ref p0, .ref r25, .int v26, .int (v28 - v29), .int v32] h24 (ev_pr A X) ∧ (∀ (r34 : Nat) (h33 : ev_AH), A r34 h33 → ∃ w35 : Value, ev_f h33 r2 2 10 = some w35 ∧ ∀ h36 : ev_AH, h36 = ev_s h33 r2 10 (.int 1) → ∃ v37 : Int32, ev_f h36 r34 2 0 = some (.int v37) ∧ P (.inl (some (.int v37))) h36) ∧ (∀ (E : String) (h9 : ev_AH), X E h9 → P (.inr E) h9)) ∧ (∀ (E : String) (h9 : ev_AH), X E h9 → P (.inr E) h9)) ∧ (∀ (E : String) (h9 : ev_AH), X E h9 → P (.inr E) h9)) ∧ (∀ (E : String) (h9 : ev_AH), X E h9 → P (.inr E) h9)) ∧ ((ev_b (¬ v13 = 0 ∧ ¬ (v11 &&& 4) = 0 ∧ 0 < v10 - v12 ∧ v14 = 0)) = 0 → P (.inr "java/lang/IllegalStateException") h1))) ∧ (j5 = 0 → P (.inr "java/lang/IllegalStateException") h1))) ∧ ((¬ v4 = 4 → J6 0) ∧ (v4 = 4 → J6 1))) ∧ (∀ (E : String) (h9 : ev_AH), X E h9 → P (.inr E) h9)) : Mt l G M_X_backorder [.ref p0, .int p1] h P := by
  refine Mt.of rfl rfl (Nat.le_of_ble_eq_true rfl) ?_
  show Ev l G M_X_backorder 0 [(0, .ref p0), (1, .int p1)] [] h 14 354 (ev_fin G M_X_backorder P)
  refine e_aload_n fX_backorder_0 rfl 0 rfl ?_
  refine e_iload_n fX_backorder_1 rfl 1 rfl ?_
  obtain ⟨gc, V⟩ := V
  obtain ⟨A, X, hm, V, VX⟩ := V
  refine e_callVr (uc' := 13) (us' := 348) (st := []) fX_backorder_2 wX_backorder_2 rfl rfl gc hm (Nat.le_of_ble_eq_true rfl) (by decide) (by decide) (fun r2 h1 ga => ?_) (fun E h1 gx => ?_)
  · have V := V _ _ ga
    refine e_astore_n (ls' := [(2, .ref r2), (0, .ref p0), (1, .int p1)]) fX_backorder_5 rfl (by decide) rfl ?_
    refine e_aload_n fX_backorder_6 rfl 0 rfl ?_
    obtain ⟨v3, gv3, V⟩ := V
    refine e_get fX_backorder_7 kX_74 gv3 ?_
    refine e_astore_n (ls' := [(3, .ref v3), (2, .ref r2), (0, .ref p0), (1, .int p1)]) fX_backorder_10 rfl (by decide) rfl ?_
    refine e_aload_n fX_backorder_11 rfl 0 rfl ?_
    obtain ⟨v4, gv4, V⟩ := V
    refine e_get fX_backorder_12 kX_45 gv4 ?_
    refine e_iconst (v := 4) fX_backorder_15 (by decide) ?_
    obtain ⟨J6, VJ6, V⟩ := V
    have KJ6 : ∀ (j5 : Int32), J6 j5 → Ev l G M_X_backorder 24 [(0, .ref p0), (1, .int p1), (2, .ref r2), (3, .ref v3)] [.int j5] h1 13 348 (ev_fin G M_X_backorder P) := by
      intro j5 hj
      have V := Eq.mp (congrFun VJ6 j5) hj
      refine e_callSv (uc' := 12) (us' := 342) (st := []) fX_backorder_24 wX_backorder_24 rfl rfl sp_X_requireState (Nat.le_of_ble_eq_true rfl) (by decide) (by decide) (fun h8 ga => ?_) (fun E h8 gx => ?_)
      · obtain ⟨rfl, z⟩ := ga
        have V := V.1 z
        refine e_aload_n fX_backorder_27 rfl 2 rfl ?_
        obtain ⟨v10, gv10, V⟩ := V
        obtain ⟨v11, gv11, V⟩ := V
        obtain ⟨v12, gv12, V⟩ := V
        obtain ⟨v13, gv13, V⟩ := V
        obtain ⟨v14, gv14, V⟩ := V
        obtain ⟨gc, V⟩ := V
        refine e_callVi (uc' := 12) (us' := 342) (st := []) fX_backorder_28 wX_backorder_28 rfl rfl gc (sp_L_awaitsBackorder gv10 gv11 gv12 gv13 gv14) (Nat.le_of_ble_eq_true rfl) (by decide) (by decide) (fun r16 h15 ga => ?_) (fun E h15 gx => False.elim gx)
        obtain ⟨rfl, ge⟩ := ga
        replace ge := ge.symm
        subst ge
        refine e_callSv (uc' := 11) (us' := 336) (st := []) fX_backorder_31 wX_backorder_31 rfl rfl sp_X_requireState (Nat.le_of_ble_eq_true rfl) (by decide) (by decide) (fun h18 ga => ?_) (fun E h18 gx => ?_)
        · obtain ⟨rfl, z⟩ := ga
          have V := V.1 z
          refine e_aload_n fX_backorder_34 rfl 0 rfl ?_
          obtain ⟨gc, V⟩ := V
          obtain ⟨A, X, hm, V, VX⟩ := V
          refine e_callVv (uc' := 10) (us' := 330) (st := []) fX_backorder_35 wX_backorder_35 rfl rfl gc hm (Nat.le_of_ble_eq_true rfl) (by decide) (by decide) (fun h19 ga => ?_) (fun E h19 gx => ?_)
          · have V := V _ ga
            refine e_aload_n fX_backorder_38 rfl 0 rfl ?_
            obtain ⟨gc, V⟩ := V
            obtain ⟨A, X, hm, V, VX⟩ := V
            refine e_callVv (uc' := 9) (us' := 324) (st := []) fX_backorder_39 wX_backorder_39 rfl rfl gc hm (Nat.le_of_ble_eq_true rfl) (by decide) (by decide) (fun h20 ga => ?_) (fun E h20 gx => ?_)
            · have V := V _ ga
              refine e_aload_n fX_backorder_42 rfl 0 rfl ?_
              refine e_aload_n fX_backorder_43 rfl 3 rfl ?_
              obtain ⟨v21, gv21, V⟩ := V
              refine e_get fX_backorder_44 kX_129 gv21 ?_
              refine e_iconst (v := 0) fX_backorder_47 (by decide) ?_
              refine e_aload_n fX_backorder_48 rfl 3 rfl ?_
              obtain ⟨v22, gv22, V⟩ := V
              refine e_get fX_backorder_49 kX_151 gv22 ?_
              refine e_aload_n fX_backorder_52 rfl 3 rfl ?_
              obtain ⟨v23, gv23, V⟩ := V
              refine e_get fX_backorder_53 kX_123 gv23 ?_
              obtain ⟨gc, V⟩ := V
              obtain ⟨A, X, hm, V, VX⟩ := V
              refine e_callVr (uc' := 5) (us' := 211) (st := []) fX_backorder_56 wX_backorder_56 rfl rfl gc hm (Nat.le_of_ble_eq_true rfl) (by decide) (by decide) (fun r25 h24 ga => ?_) (fun E h24 gx => ?_)
              · have V := V _ _ ga
                refine e_astore (ls' := [(4, .ref r25), (0, .ref p0), (1, .int p1), (2, .ref r2), (3, .ref v3)]) fX_backorder_59 (by decide) rfl ?_
                refine e_aload_n fX_backorder_61 rfl 1 rfl ?_
                refine e_aload fX_backorder_62 0 rfl ?_
                refine e_aload_n fX_backorder_64 rfl 3 rfl ?_
                obtain ⟨v26, gv26, V⟩ := V
                refine e_get fX_backorder_65 kX_116 gv26 ?_
                refine e_aload_n fX_backorder_68 rfl 3 rfl ?_
                obtain ⟨v28, gv28, V⟩ := V
                obtain ⟨v29, gv29, V⟩ := V
                obtain ⟨gc, V⟩ := V
                refine e_callVi (uc' := 5) (us' := 211) (st := [.int v26, .ref r25, .ref p0]) fX_backorder_69 wX_backorder_69 rfl rfl gc (sp_L_missing gv28 gv29) (Nat.le_of_ble_eq_true rfl) (by decide) (by decide) (fun r31 h30 ga => ?_) (fun E h30 gx => False.elim gx)
                obtain ⟨rfl, ge⟩ := ga
                replace ge := ge.symm
                subst ge
                refine e_aload_n fX_backorder_72 rfl 3 rfl ?_
                obtain ⟨v32, gv32, V⟩ := V
                refine e_get fX_backorder_73 kX_157 gv32 ?_
                obtain ⟨gc, V⟩ := V
                obtain ⟨A, X, hm, V, VX⟩ := V
                refine e_callVr (uc' := 0) (us' := 0) (st := []) fX_backorder_76 wX_backorder_76 rfl rfl gc hm (Nat.le_of_ble_eq_true rfl) (by decide) (by decide) (fun r34 h33 ga => ?_) (fun E h33 gx => ?_)
                · have V := V _ _ ga
                  refine e_astore (ls' := [(5, .ref r34), (4, .ref r25), (0, .ref p0), (1, .int p1), (2, .ref r2), (3, .ref v3)]) fX_backorder_79 (by decide) rfl ?_
                  refine e_aload_n fX_backorder_81 rfl 4 rfl ?_
                  refine e_iconst (v := 1) fX_backorder_82 (by decide) ?_
                  obtain ⟨w35, gw35, V⟩ := V
                  refine e_put fX_backorder_83 pX_160 gw35 rfl rfl (fun h36 eh36 => ?_)
                  have V := V h36 eh36
                  refine e_aload fX_backorder_86 0 rfl ?_
                  obtain ⟨v37, gv37, V⟩ := V
                  refine e_get fX_backorder_88 kX_67 gv37 ?_
                  exact e_iret fX_backorder_91 rfl V
                · exact e_out (by decide) (VX E _ gx)
              · exact e_out (by decide) (VX E _ gx)
            · exact e_out (by decide) (VX E _ gx)
          · exact e_out (by decide) (VX E _ gx)
        · obtain ⟨rfl, z, rfl⟩ := gx
          exact e_out (by decide) (V.2 z)
      · obtain ⟨rfl, z, rfl⟩ := gx
        exact e_out (by decide) (V.2 z)
    refine e_icmp_ne (tgt := 23) fX_backorder_16 (by decide) (fun z => ?_) (fun z => ?_)
    · have V := V.1 z
      refine e_iconst (v := 0) fX_backorder_23 (by decide) ?_
      exact Ev.widen (by decide) (by decide) (Ev.loc [2, 3, 1, 0] rfl (KJ6 _ V))
    · have V := V.2 z
      refine e_iconst (v := 1) fX_backorder_19 (by decide) ?_
      refine e_goto (tgt := 24) fX_backorder_20 (by decide) ?_
      exact Ev.widen (by decide) (by decide) (Ev.loc [2, 3, 1, 0] rfl (KJ6 _ V))
  · exact e_out (by decide) (VX E _ gx)
set_option maxRecDepth 20000 in
theorem vX_ready_6 {l : Launch} {G : ev_G} {h : ev_AH} {P : ev_Post} {a0 : Nat} {a1 : Int32} {a2 : Int32} (V : ∃ v1 : Nat, ev_f h a0 0 0 = some (.ref v1) ∧ ∃ v3 : Int32, ev_f h v1 3 1 = some (.int v3) ∧ (∃ fs : List Value, h v1 = some (3, fs)) ∧ ((v3 ≤ a2 → P (.inl (some (.int (-1)))) h) ∧ (¬ v3 ≤ a2 → ∃ v6 : Nat, ev_f h a0 0 0 = some (.ref v6) ∧ ∃ v8 : Nat, ev_get h v6 a2 v8 ∧ (∃ fs : List Value, h v6 = some (3, fs)) ∧ (∃ fs : List Value, h v8 = some (1, fs)) ∧ ∃ v12 : Int32, ev_f h v8 1 6 = some (.int v12) ∧ ∃ v13 : Int32, ev_f h v8 1 7 = some (.int v13) ∧ (∃ fs : List Value, h v8 = some (1, fs)) ∧ (((ev_b ((v12 = 0 ∨ v12 = 1) ∧ v13 = 0)) = 0 → ∀ x16 : Int32, x16 = a2 + 1 → Ev l G M_X_ready 6 [(0, .ref a0), (1, .int a1), (2, .int x16)] [] h 0 0 (ev_fin G M_X_ready P)) ∧ (¬ (ev_b ((v12 = 0 ∨ v12 = 1) ∧ v13 = 0)) = 0 → (∃ fs : List Value, h a0 = some (0, fs)) ∧ ∃ (A : Int32 → ev_AH → Prop) (X : String → ev_AH → Prop), Mt l G M_X_waitingBefore [.ref a0, .ref v8] h (ev_pi A X) ∧ (∀ (r18 : Int32) (h17 : ev_AH), A r18 h17 → ((¬ r18 = a1 → ∀ x19 : Int32, x19 = a2 + 1 → Ev l G M_X_ready 6 [(0, .ref a0), (1, .int a1), (2, .int x19)] [] h17 0 0 (ev_fin G M_X_ready P)) ∧ (r18 = a1 → ∃ v20 : Int32, ev_f h17 v8 1 0 = some (.int v20) ∧ P (.inl (some (.int v20))) h17))) ∧ (∀ (E : String) (h9 : ev_AH), X E h9 → P (.inr E) h9)))))) : Ev l G M_X_ready 6 [(0, .ref a0), (1, .int a1), (2, .int a2)] [] h 0 0 (ev_fin G M_X_ready P) := by
  refine e_iload_n fX_ready_6 rfl 2 rfl ?_
  refine e_aload_n fX_ready_7 rfl 0 rfl ?_
  obtain ⟨v1, gv1, V⟩ := V
  refine e_get fX_ready_8 kX_10 gv1 ?_
  obtain ⟨v3, gv3, V⟩ := V
  obtain ⟨gc, V⟩ := V
  refine e_callVi (uc' := 0) (us' := 0) (st := [.int a2]) fX_ready_11 wX_ready_11 rfl rfl gc (sp_A_size gv3) (Nat.le_of_ble_eq_true rfl) (by decide) (by decide) (fun r5 h4 ga => ?_) (fun E h4 gx => False.elim gx)
  obtain ⟨rfl, ge⟩ := ga
  replace ge := ge.symm
  subst ge
  refine e_icmp_ge (tgt := 56) fX_ready_14 (by decide) (fun z => ?_) (fun z => ?_)
  · have V := V.1 z
    refine e_iconst (v := -1) fX_ready_56 (by decide) ?_
    exact e_iret fX_ready_57 rfl V
  · have V := V.2 z
    refine e_aload_n fX_ready_17 rfl 0 rfl ?_
    obtain ⟨v6, gv6, V⟩ := V
    refine e_get fX_ready_18 kX_10 gv6 ?_
    refine e_iload_n fX_ready_21 rfl 2 rfl ?_
    obtain ⟨v8, gv8, V⟩ := V
    obtain ⟨gc, V⟩ := V
    refine e_callVr (uc' := 0) (us' := 0) (st := []) fX_ready_22 wX_ready_22 rfl rfl gc (sp_A_get gv8) (Nat.le_of_ble_eq_true rfl) (by decide) (by decide) (fun r10 h9 ga => ?_) (fun E h9 gx => False.elim gx)
    obtain ⟨rfl, ge⟩ := ga
    replace ge := ge.symm
    subst ge
    obtain ⟨gc, V⟩ := V
    refine e_cast fX_ready_25 cX_36 gc ?_
    refine e_astore_n (ls' := [(3, .ref v8), (0, .ref a0), (1, .int a1), (2, .int a2)]) fX_ready_28 rfl (by decide) rfl ?_
    refine e_aload_n fX_ready_29 rfl 0 rfl ?_
    obtain ⟨v12, gv12, V⟩ := V
    obtain ⟨v13, gv13, V⟩ := V
    obtain ⟨gc, V⟩ := V
    refine e_callVi (uc' := 0) (us' := 0) (st := []) fX_ready_30 wX_ready_30 rfl rfl gc (sp_O_isWaiting gv12 gv13) (Nat.le_of_ble_eq_true rfl) (by decide) (by decide) (fun r15 h14 ga => ?_) (fun E h14 gx => False.elim gx)
    obtain ⟨rfl, ge⟩ := ga
    replace ge := ge.symm
    subst ge
    refine e_if_eq (tgt := 50) fX_ready_33 (by decide) (fun z => ?_) (fun z => ?_)
    · have V := V.1 z
      obtain ⟨x16, ex16⟩ : ∃ z : Int32, z = a2 + 1 := ⟨_, rfl⟩
      have V := V x16 ex16
      refine e_iinc (v := x16) (k := 3) (ls' := [(2, .int x16), (3, .ref v8), (0, .ref a0), (1, .int a1)]) fX_ready_50 rfl (by rw [ex16]; rfl) (by decide) rfl ?_
      refine e_goto (tgt := 6) fX_ready_53 (by decide) ?_
      exact Ev.loc [2, 3, 0] rfl V
    · have V := V.2 z
      refine e_aload_n fX_ready_36 rfl 1 rfl ?_
      refine e_aload_n fX_ready_37 rfl 0 rfl ?_
      obtain ⟨gc, V⟩ := V
      obtain ⟨A, X, hm, V, VX⟩ := V
      refine e_callVi (uc' := 0) (us' := 0) (st := []) fX_ready_38 wX_ready_38 rfl rfl gc hm (Nat.le_of_ble_eq_true rfl) (by decide) (by decide) (fun r18 h17 ga => ?_) (fun E h17 gx => ?_)
      · have V := V _ _ ga
        refine e_iload_n fX_ready_41 rfl 2 rfl ?_
        refine e_icmp_ne (tgt := 50) fX_ready_42 (by decide) (fun z => ?_) (fun z => ?_)
        · have V := V.1 z
          obtain ⟨x19, ex19⟩ : ∃ z : Int32, z = a2 + 1 := ⟨_, rfl⟩
          have V := V x19 ex19
          refine e_iinc (v := x19) (k := 3) (ls' := [(2, .int x19), (3, .ref v8), (0, .ref a0), (1, .int a1)]) fX_ready_50 rfl (by rw [ex19]; rfl) (by decide) rfl ?_
          refine e_goto (tgt := 6) fX_ready_53 (by decide) ?_
          exact Ev.loc [2, 3, 0] rfl V
        · have V := V.2 z
          refine e_aload_n fX_ready_45 rfl 0 rfl ?_
          obtain ⟨v20, gv20, V⟩ := V
          refine e_get fX_ready_46 kX_35 gv20 ?_
          exact e_iret fX_ready_49 rfl V
      · exact e_out (by decide) (VX E _ gx)
set_option maxRecDepth 20000 in
theorem vX_ready {l : Launch} {G : ev_G} {h : ev_AH} {P : ev_Post} {p0 : Nat} {p1 : Int32} (V : ((¬ p1 < 0 → Ev l G M_X_ready 6 [(0, .ref p0), (1, .int p1), (2, .int 0)] [] h 0 0 (ev_fin G M_X_ready P)) ∧ (p1 < 0 → P (.inr "java/lang/IllegalArgumentException") h))) : Mt l G M_X_ready [.ref p0, .int p1] h P := by
  refine Mt.of rfl rfl (Nat.le_of_ble_eq_true rfl) ?_
  show Ev l G M_X_ready 0 [(0, .ref p0), (1, .int p1)] [] h 1 6 (ev_fin G M_X_ready P)
  refine e_iload_n fX_ready_0 rfl 1 rfl ?_
  refine e_callSv (uc' := 0) (us' := 0) (st := []) fX_ready_1 wX_ready_1 rfl rfl sp_X_requireNotNegative (Nat.le_of_ble_eq_true rfl) (by decide) (by decide) (fun h2 ga => ?_) (fun E h2 gx => ?_)
  · obtain ⟨rfl, z⟩ := ga
    have V := V.1 z
    refine e_iconst (v := 0) fX_ready_4 (by decide) ?_
    refine e_istore_n (ls' := [(2, .int 0), (0, .ref p0), (1, .int p1)]) fX_ready_5 rfl (by decide) rfl ?_
    exact Ev.loc [1, 2, 0] rfl V
  · obtain ⟨rfl, z, rfl⟩ := gx
    exact e_out (by decide) (V.2 z)
set_option maxRecDepth 20000 in
theorem vX_told {l : Launch} {G : ev_G} {h : ev_AH} {P : ev_Post} {p0 : Nat} {p1 : Int32} {p2 : Int32} (V : (∃ fs : List Value, h p0 = some (0, fs)) ∧ ∃ (A : Nat → ev_AH → Prop) (X : String → ev_AH → Prop), Mt l G M_X_orderAt [.ref p0, .int p1] h (ev_pr A X) ∧ (∀ (r2 : Nat) (h1 : ev_AH), A r2 h1 → ((p2 = 0 → ∃ v3 : Int32, ev_f h1 r2 1 6 = some (.int v3) ∧ P (.inl (some (.int v3))) h1) ∧ (p2 = 1 → ∃ v4 : Int32, ev_f h1 r2 1 1 = some (.int v4) ∧ P (.inl (some (.int v4))) h1) ∧ (p2 = 2 → ∃ v5 : Int32, ev_f h1 r2 1 2 = some (.int v5) ∧ P (.inl (some (.int v5))) h1) ∧ (p2 = 3 → ∃ v6 : Int32, ev_f h1 r2 1 3 = some (.int v6) ∧ P (.inl (some (.int v6))) h1) ∧ (p2 = 4 → ∃ v7 : Int32, ev_f h1 r2 1 5 = some (.int v7) ∧ P (.inl (some (.int v7))) h1) ∧ (p2 = 5 → ∃ v8 : Int32, ev_f h1 r2 1 7 = some (.int v8) ∧ P (.inl (some (.int v8))) h1) ∧ (p2 = 6 → ∃ v9 : Nat, ev_f h1 r2 1 4 = some (.ref v9) ∧ ∃ v11 : Int32, ev_f h1 v9 3 1 = some (.int v11) ∧ (∃ fs : List Value, h1 v9 = some (3, fs)) ∧ P (.inl (some (.int v11))) h1) ∧ (p2 = 7 → ∃ v14 : Int32, ev_f h1 r2 1 8 = some (.int v14) ∧ P (.inl (some (.int v14))) h1) ∧ (p2 = 8 → ∃ v15 : Int32, ev_f h1 r2 1 9 = some (.int v15) ∧ P (.inl (some (.int v15))) h1) ∧ (p2 = 9 → (∃ fs : List Value, h1 r2 = some (1, fs)) ∧ ∃ (A : Int32 → ev_AH → Prop) (X : String → ev_AH → Prop), Mt l G M_O_missing [.ref r2] h1 (ev_pi A X) ∧ (∀ (r17 : Int32) (h16 : ev_AH), A r17 h16 → P (.inl (some (.int r17))) h16) ∧ (∀ (E : String) (h9 : ev_AH), X E h9 → P (.inr E) h9)) ∧ ((¬ p2 = 0 ∧ ¬ p2 = 1 ∧ ¬ p2 = 2 ∧ ¬ p2 = 3 ∧ ¬ p2 = 4 ∧ ¬ p2 = 5 ∧ ¬ p2 = 6 ∧ ¬ p2 = 7 ∧ ¬ p2 = 8 ∧ ¬ p2 = 9) → P (.inr "java/lang/IllegalArgumentException") h1))) ∧ (∀ (E : String) (h9 : ev_AH), X E h9 → P (.inr E) h9)) : Mt l G M_X_told [.ref p0, .int p1, .int p2] h P := by
  refine Mt.of rfl rfl (Nat.le_of_ble_eq_true rfl) ?_
  show Ev l G M_X_told 0 [(0, .ref p0), (1, .int p1), (2, .int p2)] [] h 2 12 (ev_fin G M_X_told P)
  refine e_aload_n fX_told_0 rfl 0 rfl ?_
  refine e_iload_n fX_told_1 rfl 1 rfl ?_
  obtain ⟨gc, V⟩ := V
  obtain ⟨A, X, hm, V, VX⟩ := V
  refine e_callVr (uc' := 1) (us' := 6) (st := []) fX_told_2 wX_told_2 rfl rfl gc hm (Nat.le_of_ble_eq_true rfl) (by decide) (by decide) (fun r2 h1 ga => ?_) (fun E h1 gx => ?_)
  · have V := V _ _ ga
    refine e_astore_n (ls' := [(3, .ref r2), (0, .ref p0), (1, .int p1), (2, .int p2)]) fX_told_5 rfl (by decide) rfl ?_
    refine e_iload_n fX_told_6 rfl 3 rfl ?_
    by_cases z0 : p2 = 0
    · have V := V.1 z0
      refine e_tin (tgt := 60) fX_told_7 (by rw [z0]; decide) (by rw [z0]; decide) (by rw [z0]; rfl) (by decide) ?_
      refine e_aload_n fX_told_60 rfl 0 rfl ?_
      obtain ⟨v3, gv3, V⟩ := V
      refine e_get fX_told_61 kX_45 gv3 ?_
      exact e_iret fX_told_64 rfl V
    by_cases z1 : p2 = 1
    · have V := V.2.1 z1
      refine e_tin (tgt := 65) fX_told_7 (by rw [z1]; decide) (by rw [z1]; decide) (by rw [z1]; rfl) (by decide) ?_
      refine e_aload_n fX_told_65 rfl 0 rfl ?_
      obtain ⟨v4, gv4, V⟩ := V
      refine e_get fX_told_66 kX_129 gv4 ?_
      exact e_iret fX_told_69 rfl V
    by_cases z2 : p2 = 2
    · have V := V.2.2.1 z2
      refine e_tin (tgt := 70) fX_told_7 (by rw [z2]; decide) (by rw [z2]; decide) (by rw [z2]; rfl) (by decide) ?_
      refine e_aload_n fX_told_70 rfl 0 rfl ?_
      obtain ⟨v5, gv5, V⟩ := V
      refine e_get fX_told_71 kX_178 gv5 ?_
      exact e_iret fX_told_74 rfl V
    by_cases z3 : p2 = 3
    · have V := V.2.2.2.1 z3
      refine e_tin (tgt := 75) fX_told_7 (by rw [z3]; decide) (by rw [z3]; decide) (by rw [z3]; rfl) (by decide) ?_
      refine e_aload_n fX_told_75 rfl 0 rfl ?_
      obtain ⟨v6, gv6, V⟩ := V
      refine e_get fX_told_76 kX_151 gv6 ?_
      exact e_iret fX_told_79 rfl V
    by_cases z4 : p2 = 4
    · have V := V.2.2.2.2.1 z4
      refine e_tin (tgt := 80) fX_told_7 (by rw [z4]; decide) (by rw [z4]; decide) (by rw [z4]; rfl) (by decide) ?_
      refine e_aload_n fX_told_80 rfl 0 rfl ?_
      obtain ⟨v7, gv7, V⟩ := V
      refine e_get fX_told_81 kX_123 gv7 ?_
      exact e_iret fX_told_84 rfl V
    by_cases z5 : p2 = 5
    · have V := V.2.2.2.2.2.1 z5
      refine e_tin (tgt := 85) fX_told_7 (by rw [z5]; decide) (by rw [z5]; decide) (by rw [z5]; rfl) (by decide) ?_
      refine e_aload_n fX_told_85 rfl 0 rfl ?_
      obtain ⟨v8, gv8, V⟩ := V
      refine e_get fX_told_86 kX_139 gv8 ?_
      exact e_iret fX_told_89 rfl V
    by_cases z6 : p2 = 6
    · have V := V.2.2.2.2.2.2.1 z6
      refine e_tin (tgt := 90) fX_told_7 (by rw [z6]; decide) (by rw [z6]; decide) (by rw [z6]; rfl) (by decide) ?_
      refine e_aload_n fX_told_90 rfl 0 rfl ?_
      obtain ⟨v9, gv9, V⟩ := V
      refine e_get fX_told_91 kX_52 gv9 ?_
      obtain ⟨v11, gv11, V⟩ := V
      obtain ⟨gc, V⟩ := V
      refine e_callVi (uc' := 1) (us' := 6) (st := []) fX_told_94 wX_told_94 rfl rfl gc (sp_A_size gv11) (Nat.le_of_ble_eq_true rfl) (by decide) (by decide) (fun r13 h12 ga => ?_) (fun E h12 gx => False.elim gx)
      obtain ⟨rfl, ge⟩ := ga
      replace ge := ge.symm
      subst ge
      exact e_iret fX_told_97 rfl V
    by_cases z7 : p2 = 7
    · have V := V.2.2.2.2.2.2.2.1 z7
      refine e_tin (tgt := 98) fX_told_7 (by rw [z7]; decide) (by rw [z7]; decide) (by rw [z7]; rfl) (by decide) ?_
      refine e_aload_n fX_told_98 rfl 0 rfl ?_
      obtain ⟨v14, gv14, V⟩ := V
      refine e_get fX_told_99 kX_88 gv14 ?_
      exact e_iret fX_told_102 rfl V
    by_cases z8 : p2 = 8
    · have V := V.2.2.2.2.2.2.2.2.1 z8
      refine e_tin (tgt := 103) fX_told_7 (by rw [z8]; decide) (by rw [z8]; decide) (by rw [z8]; rfl) (by decide) ?_
      refine e_aload_n fX_told_103 rfl 0 rfl ?_
      obtain ⟨v15, gv15, V⟩ := V
      refine e_get fX_told_104 kX_136 gv15 ?_
      exact e_iret fX_told_107 rfl V
    by_cases z9 : p2 = 9
    · have V := V.2.2.2.2.2.2.2.2.2.1 z9
      refine e_tin (tgt := 108) fX_told_7 (by rw [z9]; decide) (by rw [z9]; decide) (by rw [z9]; rfl) (by decide) ?_
      refine e_aload_n fX_told_108 rfl 0 rfl ?_
      obtain ⟨gc, V⟩ := V
      obtain ⟨A, X, hm, V, VX⟩ := V
      refine e_callVi (uc' := 1) (us' := 6) (st := []) fX_told_109 wX_told_109 rfl rfl gc hm (Nat.le_of_ble_eq_true rfl) (by decide) (by decide) (fun r17 h16 ga => ?_) (fun E h16 gx => ?_)
      · have V := V _ _ ga
        exact e_iret fX_told_112 rfl V
      · exact e_out (by decide) (VX E _ gx)
    have V := V.2.2.2.2.2.2.2.2.2.2 ⟨z0, z1, z2, z3, z4, z5, z6, z7, z8, z9⟩
    refine e_tout (tgt := 113) fX_told_7 (ev_out (x := p2) 10 (fun k hk => by rcases (show k = 0 ∨ k = 1 ∨ k = 2 ∨ k = 3 ∨ k = 4 ∨ k = 5 ∨ k = 6 ∨ k = 7 ∨ k = 8 ∨ k = 9 by omega) with rfl | rfl | rfl | rfl | rfl | rfl | rfl | rfl | rfl | rfl <;> first | exact z0 | exact z1 | exact z2 | exact z3 | exact z4 | exact z5 | exact z6 | exact z7 | exact z8 | exact z9)) (by decide) ?_
    exact e_throwS fX_told_113 fX_told_116 fX_told_117 fX_told_119 fX_told_122 tX_told_113 (by decide) (by decide) V
  · exact e_out (by decide) (VX E _ gx)
set_option maxRecDepth 20000 in
theorem vX_lineOf {l : Launch} {G : ev_G} {h : ev_AH} {P : ev_Post} {p0 : Nat} {p1 : Int32} {p2 : Int32} (V : (∃ fs : List Value, h p0 = some (0, fs)) ∧ ∃ (A : Nat → ev_AH → Prop) (X : String → ev_AH → Prop), Mt l G M_X_orderAt [.ref p0, .int p1] h (ev_pr A X) ∧ (∀ (r2 : Nat) (h1 : ev_AH), A r2 h1 → ((¬ p2 < 0 → ∃ v5 : Nat, ev_f h1 r2 1 4 = some (.ref v5) ∧ ∃ v7 : Int32, ev_f h1 v5 3 1 = some (.int v7) ∧ (∃ fs : List Value, h1 v5 = some (3, fs)) ∧ ((v7 ≤ p2 → P (.inl (some (.int (-1)))) h1) ∧ (¬ v7 ≤ p2 → ∃ v10 : Nat, ev_f h1 r2 1 4 = some (.ref v10) ∧ ∃ v12 : Nat, ev_get h1 v10 p2 v12 ∧ (∃ fs : List Value, h1 v10 = some (3, fs)) ∧ (∃ fs : List Value, h1 v12 = some (2, fs)) ∧ ∃ v15 : Int32, ev_f h1 v12 2 0 = some (.int v15) ∧ P (.inl (some (.int v15))) h1))) ∧ (p2 < 0 → P (.inr "java/lang/IllegalArgumentException") h1))) ∧ (∀ (E : String) (h9 : ev_AH), X E h9 → P (.inr E) h9)) : Mt l G M_X_lineOf [.ref p0, .int p1, .int p2] h P := by
  refine Mt.of rfl rfl (Nat.le_of_ble_eq_true rfl) ?_
  show Ev l G M_X_lineOf 0 [(0, .ref p0), (1, .int p1), (2, .int p2)] [] h 2 12 (ev_fin G M_X_lineOf P)
  refine e_aload_n fX_lineOf_0 rfl 0 rfl ?_
  refine e_iload_n fX_lineOf_1 rfl 1 rfl ?_
  obtain ⟨gc, V⟩ := V
  obtain ⟨A, X, hm, V, VX⟩ := V
  refine e_callVr (uc' := 1) (us' := 6) (st := []) fX_lineOf_2 wX_lineOf_2 rfl rfl gc hm (Nat.le_of_ble_eq_true rfl) (by decide) (by decide) (fun r2 h1 ga => ?_) (fun E h1 gx => ?_)
  · have V := V _ _ ga
    refine e_astore_n (ls' := [(3, .ref r2), (0, .ref p0), (1, .int p1), (2, .int p2)]) fX_lineOf_5 rfl (by decide) rfl ?_
    refine e_iload_n fX_lineOf_6 rfl 3 rfl ?_
    refine e_callSv (uc' := 0) (us' := 0) (st := []) fX_lineOf_7 wX_lineOf_7 rfl rfl sp_X_requireNotNegative (Nat.le_of_ble_eq_true rfl) (by decide) (by decide) (fun h4 ga => ?_) (fun E h4 gx => ?_)
    · obtain ⟨rfl, z⟩ := ga
      have V := V.1 z
      refine e_iload_n fX_lineOf_10 rfl 3 rfl ?_
      refine e_aload_n fX_lineOf_11 rfl 0 rfl ?_
      obtain ⟨v5, gv5, V⟩ := V
      refine e_get fX_lineOf_12 kX_52 gv5 ?_
      obtain ⟨v7, gv7, V⟩ := V
      obtain ⟨gc, V⟩ := V
      refine e_callVi (uc' := 0) (us' := 0) (st := [.int p2]) fX_lineOf_15 wX_lineOf_15 rfl rfl gc (sp_A_size gv7) (Nat.le_of_ble_eq_true rfl) (by decide) (by decide) (fun r9 h8 ga => ?_) (fun E h8 gx => False.elim gx)
      obtain ⟨rfl, ge⟩ := ga
      replace ge := ge.symm
      subst ge
      refine e_icmp_ge (tgt := 38) fX_lineOf_18 (by decide) (fun z => ?_) (fun z => ?_)
      · have V := V.1 z
        refine e_iconst (v := -1) fX_lineOf_38 (by decide) ?_
        exact e_iret fX_lineOf_39 rfl V
      · have V := V.2 z
        refine e_aload_n fX_lineOf_21 rfl 0 rfl ?_
        obtain ⟨v10, gv10, V⟩ := V
        refine e_get fX_lineOf_22 kX_52 gv10 ?_
        refine e_iload_n fX_lineOf_25 rfl 3 rfl ?_
        obtain ⟨v12, gv12, V⟩ := V
        obtain ⟨gc, V⟩ := V
        refine e_callVr (uc' := 0) (us' := 0) (st := []) fX_lineOf_26 wX_lineOf_26 rfl rfl gc (sp_A_get gv12) (Nat.le_of_ble_eq_true rfl) (by decide) (by decide) (fun r14 h13 ga => ?_) (fun E h13 gx => False.elim gx)
        obtain ⟨rfl, ge⟩ := ga
        replace ge := ge.symm
        subst ge
        obtain ⟨gc, V⟩ := V
        refine e_cast fX_lineOf_29 cX_68 gc ?_
        obtain ⟨v15, gv15, V⟩ := V
        refine e_get fX_lineOf_32 kX_67 gv15 ?_
        refine e_goto (tgt := 39) fX_lineOf_35 (by decide) ?_
        exact e_iret fX_lineOf_39 rfl V
    · obtain ⟨rfl, z, rfl⟩ := gx
      exact e_out (by decide) (V.2 z)
  · exact e_out (by decide) (VX E _ gx)
set_option maxRecDepth 20000 in
theorem vX_packed {l : Launch} {G : ev_G} {h : ev_AH} {P : ev_Post} {p0 : Nat} {p1 : Int32} (V : (∃ fs : List Value, h p0 = some (0, fs)) ∧ ∃ (A : Nat → ev_AH → Prop) (X : String → ev_AH → Prop), Mt l G M_X_lineAt [.ref p0, .int p1] h (ev_pr A X) ∧ (∀ (r2 : Nat) (h1 : ev_AH), A r2 h1 → ∃ v3 : Nat, ev_f h1 r2 2 2 = some (.ref v3) ∧ ∃ v4 : Int32, ev_f h1 v3 1 0 = some (.int v4) ∧ ∀ x5 : Int64, x5 = Int32.toInt64 v4 → ∃ v6 : Int32, ev_f h1 r2 2 10 = some (.int v6) ∧ ∃ J8 : Int32 → Prop, J8 = (fun (j7 : Int32) => ∀ x9 : Int64, x9 = (x5 <<< (Int32.toInt64 1 &&& 63)) ||| (Int32.toInt64 j7) → ∃ v10 : Int32, ev_f h1 r2 2 9 = some (.int v10) ∧ ∃ J12 : Int32 → Prop, J12 = (fun (j11 : Int32) => ∀ x13 : Int64, x13 = (x9 <<< (Int32.toInt64 1 &&& 63)) ||| (Int32.toInt64 j11) → ∃ v14 : Int32, ev_f h1 r2 2 7 = some (.int v14) ∧ ∀ x15 : Int64, x15 = (x13 <<< (Int32.toInt64 10 &&& 63)) ||| (Int32.toInt64 v14) → ∃ v16 : Int32, ev_f h1 r2 2 6 = some (.int v16) ∧ ∀ x17 : Int64, x17 = (x15 <<< (Int32.toInt64 10 &&& 63)) ||| (Int32.toInt64 v16) → ∃ v18 : Int32, ev_f h1 r2 2 5 = some (.int v18) ∧ ∀ x19 : Int64, x19 = (x17 <<< (Int32.toInt64 10 &&& 63)) ||| (Int32.toInt64 v18) → ∃ v20 : Int32, ev_f h1 r2 2 3 = some (.int v20) ∧ ∀ x21 : Int64, x21 = (x19 <<< (Int32.toInt64 10 &&& 63)) ||| (Int32.toInt64 v20) → ∃ v22 : Int32, ev_f h1 r2 2 4 = some (.int v22) ∧ ∀ x23 : Int64, x23 = (x21 <<< (Int32.toInt64 3 &&& 63)) ||| (Int32.toInt64 v22) → ∃ v24 : Int32, ev_f h1 r2 2 8 = some (.int v24) ∧ ∀ x25 : Int64, x25 = (x23 <<< (Int32.toInt64 5 &&& 63)) ||| (Int32.toInt64 (v24 + 1)) → ∃ v26 : Int32, ev_f h1 r2 2 1 = some (.int v26) ∧ P (.inl (some (.long ((x25 <<< (Int32.toInt64 4 &&& 63)) ||| (Int32.toInt64 v26))))) h1) ∧ ((v10 = 0 → J12 0) ∧ (¬ v10 = 0 → J12 1))) ∧ ((v6 = 0 → J8 0) ∧ (¬ v6 = 0 → J8 1))) ∧ (∀ (E : String) (h9 : ev_AH), X E h9 → P (.inr E) h9)) : Mt l G M_X_packed [.ref p0, .int p1] h P := by
  refine Mt.of rfl rfl (Nat.le_of_ble_eq_true rfl) ?_
  show Ev l G M_X_packed 0 [(0, .ref p0), (1, .int p1)] [] h 1 6 (ev_fin G M_X_packed P)
  refine e_aload_n fX_packed_0 rfl 0 rfl ?_
  refine e_iload_n fX_packed_1 rfl 1 rfl ?_
  obtain ⟨gc, V⟩ := V
  obtain ⟨A, X, hm, V, VX⟩ := V
  refine e_callVr (uc' := 0) (us' := 0) (st := []) fX_packed_2 wX_packed_2 rfl rfl gc hm (Nat.le_of_ble_eq_true rfl) (by decide) (by decide) (fun r2 h1 ga => ?_) (fun E h1 gx => ?_)
  · have V := V _ _ ga
    refine e_astore_n (ls' := [(2, .ref r2), (0, .ref p0), (1, .int p1)]) fX_packed_5 rfl (by decide) rfl ?_
    refine e_aload_n fX_packed_6 rfl 0 rfl ?_
    obtain ⟨v3, gv3, V⟩ := V
    refine e_get fX_packed_7 kX_74 gv3 ?_
    obtain ⟨v4, gv4, V⟩ := V
    refine e_get fX_packed_10 kX_35 gv4 ?_
    refine e_i2l fX_packed_13 rfl ?_
    refine e_topl (fun x5 ex5 => ?_)
    have V := V x5 ex5
    refine e_lstore_n (ls' := [(3, .long x5), (2, .ref r2), (0, .ref p0), (1, .int p1)]) fX_packed_14 rfl (by decide) rfl ?_
    refine e_lload_n fX_packed_15 rfl 0 rfl ?_
    refine e_iconst (v := 1) fX_packed_16 (by decide) ?_
    refine e_lshl fX_packed_17 rfl ?_
    refine e_aload_n fX_packed_18 rfl 1 rfl ?_
    obtain ⟨v6, gv6, V⟩ := V
    refine e_get fX_packed_19 kX_160 gv6 ?_
    obtain ⟨J8, VJ8, V⟩ := V
    have KJ8 : ∀ (j7 : Int32), J8 j7 → Ev l G M_X_packed 30 [(0, .ref p0), (1, .int p1), (2, .ref r2), (3, .long x5)] [.int j7, .long (x5 <<< (Int32.toInt64 1 &&& 63))] h1 0 0 (ev_fin G M_X_packed P) := by
      intro j7 hj
      have V := Eq.mp (congrFun VJ8 j7) hj
      refine e_i2l fX_packed_30 rfl ?_
      refine e_lor fX_packed_31 ?_
      refine e_topl (fun x9 ex9 => ?_)
      have V := V x9 ex9
      refine e_lstore_n (ls' := [(3, .long x9), (0, .ref p0), (1, .int p1), (2, .ref r2)]) fX_packed_32 rfl (by decide) rfl ?_
      refine e_lload_n fX_packed_33 rfl 0 rfl ?_
      refine e_iconst (v := 1) fX_packed_34 (by decide) ?_
      refine e_lshl fX_packed_35 rfl ?_
      refine e_aload_n fX_packed_36 rfl 3 rfl ?_
      obtain ⟨v10, gv10, V⟩ := V
      refine e_get fX_packed_37 kX_78 gv10 ?_
      obtain ⟨J12, VJ12, V⟩ := V
      have KJ12 : ∀ (j11 : Int32), J12 j11 → Ev l G M_X_packed 48 [(0, .ref p0), (1, .int p1), (2, .ref r2), (3, .long x9)] [.int j11, .long (x9 <<< (Int32.toInt64 1 &&& 63))] h1 0 0 (ev_fin G M_X_packed P) := by
        intro j11 hj
        have V := Eq.mp (congrFun VJ12 j11) hj
        refine e_i2l fX_packed_48 rfl ?_
        refine e_lor fX_packed_49 ?_
        refine e_topl (fun x13 ex13 => ?_)
        have V := V x13 ex13
        refine e_lstore_n (ls' := [(3, .long x13), (0, .ref p0), (1, .int p1), (2, .ref r2)]) fX_packed_50 rfl (by decide) rfl ?_
        refine e_lload_n fX_packed_51 rfl 0 rfl ?_
        refine e_bipush (v := 10) fX_packed_52 (by decide) ?_
        refine e_lshl fX_packed_54 rfl ?_
        refine e_aload_n fX_packed_55 rfl 3 rfl ?_
        obtain ⟨v14, gv14, V⟩ := V
        refine e_get fX_packed_56 kX_189 gv14 ?_
        refine e_i2l fX_packed_59 rfl ?_
        refine e_lor fX_packed_60 ?_
        refine e_topl (fun x15 ex15 => ?_)
        have V := V x15 ex15
        refine e_lstore_n (ls' := [(3, .long x15), (0, .ref p0), (1, .int p1), (2, .ref r2)]) fX_packed_61 rfl (by decide) rfl ?_
        refine e_lload_n fX_packed_62 rfl 0 rfl ?_
        refine e_bipush (v := 10) fX_packed_63 (by decide) ?_
        refine e_lshl fX_packed_65 rfl ?_
        refine e_aload_n fX_packed_66 rfl 3 rfl ?_
        obtain ⟨v16, gv16, V⟩ := V
        refine e_get fX_packed_67 kX_95 gv16 ?_
        refine e_i2l fX_packed_70 rfl ?_
        refine e_lor fX_packed_71 ?_
        refine e_topl (fun x17 ex17 => ?_)
        have V := V x17 ex17
        refine e_lstore_n (ls' := [(3, .long x17), (0, .ref p0), (1, .int p1), (2, .ref r2)]) fX_packed_72 rfl (by decide) rfl ?_
        refine e_lload_n fX_packed_73 rfl 0 rfl ?_
        refine e_bipush (v := 10) fX_packed_74 (by decide) ?_
        refine e_lshl fX_packed_76 rfl ?_
        refine e_aload_n fX_packed_77 rfl 3 rfl ?_
        obtain ⟨v18, gv18, V⟩ := V
        refine e_get fX_packed_78 kX_82 gv18 ?_
        refine e_i2l fX_packed_81 rfl ?_
        refine e_lor fX_packed_82 ?_
        refine e_topl (fun x19 ex19 => ?_)
        have V := V x19 ex19
        refine e_lstore_n (ls' := [(3, .long x19), (0, .ref p0), (1, .int p1), (2, .ref r2)]) fX_packed_83 rfl (by decide) rfl ?_
        refine e_lload_n fX_packed_84 rfl 0 rfl ?_
        refine e_bipush (v := 10) fX_packed_85 (by decide) ?_
        refine e_lshl fX_packed_87 rfl ?_
        refine e_aload_n fX_packed_88 rfl 3 rfl ?_
        obtain ⟨v20, gv20, V⟩ := V
        refine e_get fX_packed_89 kX_85 gv20 ?_
        refine e_i2l fX_packed_92 rfl ?_
        refine e_lor fX_packed_93 ?_
        refine e_topl (fun x21 ex21 => ?_)
        have V := V x21 ex21
        refine e_lstore_n (ls' := [(3, .long x21), (0, .ref p0), (1, .int p1), (2, .ref r2)]) fX_packed_94 rfl (by decide) rfl ?_
        refine e_lload_n fX_packed_95 rfl 0 rfl ?_
        refine e_iconst (v := 3) fX_packed_96 (by decide) ?_
        refine e_lshl fX_packed_97 rfl ?_
        refine e_aload_n fX_packed_98 rfl 3 rfl ?_
        obtain ⟨v22, gv22, V⟩ := V
        refine e_get fX_packed_99 kX_157 gv22 ?_
        refine e_i2l fX_packed_102 rfl ?_
        refine e_lor fX_packed_103 ?_
        refine e_topl (fun x23 ex23 => ?_)
        have V := V x23 ex23
        refine e_lstore_n (ls' := [(3, .long x23), (0, .ref p0), (1, .int p1), (2, .ref r2)]) fX_packed_104 rfl (by decide) rfl ?_
        refine e_lload_n fX_packed_105 rfl 0 rfl ?_
        refine e_iconst (v := 5) fX_packed_106 (by decide) ?_
        refine e_lshl fX_packed_107 rfl ?_
        refine e_aload_n fX_packed_108 rfl 3 rfl ?_
        obtain ⟨v24, gv24, V⟩ := V
        refine e_get fX_packed_109 kX_192 gv24 ?_
        refine e_iconst (v := 1) fX_packed_112 (by decide) ?_
        refine e_iadd fX_packed_113 ?_
        refine e_i2l fX_packed_114 rfl ?_
        refine e_lor fX_packed_115 ?_
        refine e_topl (fun x25 ex25 => ?_)
        have V := V x25 ex25
        refine e_lstore_n (ls' := [(3, .long x25), (0, .ref p0), (1, .int p1), (2, .ref r2)]) fX_packed_116 rfl (by decide) rfl ?_
        refine e_lload_n fX_packed_117 rfl 0 rfl ?_
        refine e_iconst (v := 4) fX_packed_118 (by decide) ?_
        refine e_lshl fX_packed_119 rfl ?_
        refine e_aload_n fX_packed_120 rfl 3 rfl ?_
        obtain ⟨v26, gv26, V⟩ := V
        refine e_get fX_packed_121 kX_116 gv26 ?_
        refine e_i2l fX_packed_124 rfl ?_
        refine e_lor fX_packed_125 ?_
        exact e_lret fX_packed_126 rfl V
      refine e_if_eq (tgt := 47) fX_packed_40 (by decide) (fun z => ?_) (fun z => ?_)
      · have V := V.1 z
        refine e_iconst (v := 0) fX_packed_47 (by decide) ?_
        exact Ev.widen (by decide) (by decide) (Ev.loc [1, 2, 3, 0] rfl (KJ12 _ V))
      · have V := V.2 z
        refine e_iconst (v := 1) fX_packed_43 (by decide) ?_
        refine e_goto (tgt := 48) fX_packed_44 (by decide) ?_
        exact Ev.widen (by decide) (by decide) (Ev.loc [1, 2, 3, 0] rfl (KJ12 _ V))
    refine e_if_eq (tgt := 29) fX_packed_22 (by decide) (fun z => ?_) (fun z => ?_)
    · have V := V.1 z
      refine e_iconst (v := 0) fX_packed_29 (by decide) ?_
      exact Ev.widen (by decide) (by decide) (Ev.loc [2, 3, 1, 0] rfl (KJ8 _ V))
    · have V := V.2 z
      refine e_iconst (v := 1) fX_packed_25 (by decide) ?_
      refine e_goto (tgt := 30) fX_packed_26 (by decide) ?_
      exact Ev.widen (by decide) (by decide) (Ev.loc [2, 3, 1, 0] rfl (KJ8 _ V))
  · exact e_out (by decide) (VX E _ gx)
set_option maxRecDepth 20000 in
theorem vX_count {l : Launch} {G : ev_G} {h : ev_AH} {P : ev_Post} {p0 : Nat} {p1 : Int32} (V : ((p1 = 0 → ∃ v1 : Nat, ev_f h p0 0 0 = some (.ref v1) ∧ ∃ v3 : Int32, ev_f h v1 3 1 = some (.int v3) ∧ (∃ fs : List Value, h v1 = some (3, fs)) ∧ P (.inl (some (.int v3))) h) ∧ (p1 = 1 → ∃ v6 : Nat, ev_f h p0 0 1 = some (.ref v6) ∧ ∃ v8 : Int32, ev_f h v6 3 1 = some (.int v8) ∧ (∃ fs : List Value, h v6 = some (3, fs)) ∧ P (.inl (some (.int v8))) h) ∧ (p1 = 2 → (∃ fs : List Value, h p0 = some (0, fs)) ∧ ∃ (A : Int32 → ev_AH → Prop) (X : String → ev_AH → Prop), Mt l G M_X_piecesHeld [.ref p0] h (ev_pi A X) ∧ (∀ (r12 : Int32) (h11 : ev_AH), A r12 h11 → P (.inl (some (.int r12))) h11) ∧ (∀ (E : String) (h9 : ev_AH), X E h9 → P (.inr E) h9)) ∧ (p1 = 3 → (∃ fs : List Value, h p0 = some (0, fs)) ∧ ∃ (A : Int32 → ev_AH → Prop) (X : String → ev_AH → Prop), Mt l G M_X_piecesShipped [.ref p0] h (ev_pi A X) ∧ (∀ (r14 : Int32) (h13 : ev_AH), A r14 h13 → P (.inl (some (.int r14))) h13) ∧ (∀ (E : String) (h9 : ev_AH), X E h9 → P (.inr E) h9)) ∧ ((¬ p1 = 0 ∧ ¬ p1 = 1 ∧ ¬ p1 = 2 ∧ ¬ p1 = 3) → P (.inl (some (.int (-1)))) h))) : Mt l G M_X_count [.ref p0, .int p1] h P := by
  refine Mt.of rfl rfl (Nat.le_of_ble_eq_true rfl) ?_
  show Ev l G M_X_count 0 [(0, .ref p0), (1, .int p1)] [] h 0 0 (ev_fin G M_X_count P)
  refine e_iload_n fX_count_0 rfl 1 rfl ?_
  by_cases z0 : p1 = 0
  · have V := V.1 z0
    refine e_tin (tgt := 32) fX_count_1 (by rw [z0]; decide) (by rw [z0]; decide) (by rw [z0]; rfl) (by decide) ?_
    refine e_aload_n fX_count_32 rfl 0 rfl ?_
    obtain ⟨v1, gv1, V⟩ := V
    refine e_get fX_count_33 kX_10 gv1 ?_
    obtain ⟨v3, gv3, V⟩ := V
    obtain ⟨gc, V⟩ := V
    refine e_callVi (uc' := 0) (us' := 0) (st := []) fX_count_36 wX_count_36 rfl rfl gc (sp_A_size gv3) (Nat.le_of_ble_eq_true rfl) (by decide) (by decide) (fun r5 h4 ga => ?_) (fun E h4 gx => False.elim gx)
    obtain ⟨rfl, ge⟩ := ga
    replace ge := ge.symm
    subst ge
    exact e_iret fX_count_39 rfl V
  by_cases z1 : p1 = 1
  · have V := V.2.1 z1
    refine e_tin (tgt := 40) fX_count_1 (by rw [z1]; decide) (by rw [z1]; decide) (by rw [z1]; rfl) (by decide) ?_
    refine e_aload_n fX_count_40 rfl 0 rfl ?_
    obtain ⟨v6, gv6, V⟩ := V
    refine e_get fX_count_41 kX_16 gv6 ?_
    obtain ⟨v8, gv8, V⟩ := V
    obtain ⟨gc, V⟩ := V
    refine e_callVi (uc' := 0) (us' := 0) (st := []) fX_count_44 wX_count_44 rfl rfl gc (sp_A_size gv8) (Nat.le_of_ble_eq_true rfl) (by decide) (by decide) (fun r10 h9 ga => ?_) (fun E h9 gx => False.elim gx)
    obtain ⟨rfl, ge⟩ := ga
    replace ge := ge.symm
    subst ge
    exact e_iret fX_count_47 rfl V
  by_cases z2 : p1 = 2
  · have V := V.2.2.1 z2
    refine e_tin (tgt := 48) fX_count_1 (by rw [z2]; decide) (by rw [z2]; decide) (by rw [z2]; rfl) (by decide) ?_
    refine e_aload_n fX_count_48 rfl 0 rfl ?_
    obtain ⟨gc, V⟩ := V
    obtain ⟨A, X, hm, V, VX⟩ := V
    refine e_callVi (uc' := 0) (us' := 0) (st := []) fX_count_49 wX_count_49 rfl rfl gc hm (Nat.le_of_ble_eq_true rfl) (by decide) (by decide) (fun r12 h11 ga => ?_) (fun E h11 gx => ?_)
    · have V := V _ _ ga
      exact e_iret fX_count_52 rfl V
    · exact e_out (by decide) (VX E _ gx)
  by_cases z3 : p1 = 3
  · have V := V.2.2.2.1 z3
    refine e_tin (tgt := 53) fX_count_1 (by rw [z3]; decide) (by rw [z3]; decide) (by rw [z3]; rfl) (by decide) ?_
    refine e_aload_n fX_count_53 rfl 0 rfl ?_
    obtain ⟨gc, V⟩ := V
    obtain ⟨A, X, hm, V, VX⟩ := V
    refine e_callVi (uc' := 0) (us' := 0) (st := []) fX_count_54 wX_count_54 rfl rfl gc hm (Nat.le_of_ble_eq_true rfl) (by decide) (by decide) (fun r14 h13 ga => ?_) (fun E h13 gx => ?_)
    · have V := V _ _ ga
      exact e_iret fX_count_57 rfl V
    · exact e_out (by decide) (VX E _ gx)
  have V := V.2.2.2.2 ⟨z0, z1, z2, z3⟩
  refine e_tout (tgt := 58) fX_count_1 (ev_out (x := p1) 4 (fun k hk => by rcases (show k = 0 ∨ k = 1 ∨ k = 2 ∨ k = 3 by omega) with rfl | rfl | rfl | rfl <;> first | exact z0 | exact z1 | exact z2 | exact z3)) (by decide) ?_
  refine e_iconst (v := -1) fX_count_58 (by decide) ?_
  exact e_iret fX_count_59 rfl V
set_option maxRecDepth 20000 in
theorem vX_orderAt {l : Launch} {G : ev_G} {h : ev_AH} {P : ev_Post} {p0 : Nat} {p1 : Int32} (V : ((p1 < 0 → P (.inr "java/util/NoSuchElementException") h) ∧ (¬ p1 < 0 → ∃ v1 : Nat, ev_f h p0 0 0 = some (.ref v1) ∧ ∃ v3 : Int32, ev_f h v1 3 1 = some (.int v3) ∧ (∃ fs : List Value, h v1 = some (3, fs)) ∧ ((p1 < v3 → ∃ v6 : Nat, ev_f h p0 0 0 = some (.ref v6) ∧ ∃ v8 : Nat, ev_get h v6 p1 v8 ∧ (∃ fs : List Value, h v6 = some (3, fs)) ∧ (∃ fs : List Value, h v8 = some (1, fs)) ∧ P (.inl (some (.ref v8))) h) ∧ (¬ p1 < v3 → P (.inr "java/util/NoSuchElementException") h))))) : Mt l G M_X_orderAt [.ref p0, .int p1] h P := by
  refine Mt.of rfl rfl (Nat.le_of_ble_eq_true rfl) ?_
  show Ev l G M_X_orderAt 0 [(0, .ref p0), (1, .int p1)] [] h 1 6 (ev_fin G M_X_orderAt P)
  refine e_iload_n fX_orderAt_0 rfl 1 rfl ?_
  refine e_if_lt (tgt := 15) fX_orderAt_1 (by decide) (fun z => ?_) (fun z => ?_)
  · have V := V.1 z
    exact e_throwN fX_orderAt_15 fX_orderAt_18 fX_orderAt_19 fX_orderAt_21 fX_orderAt_24 tX_orderAt_15 (by decide) (by decide) V
  · have V := V.2 z
    refine e_iload_n fX_orderAt_4 rfl 1 rfl ?_
    refine e_aload_n fX_orderAt_5 rfl 0 rfl ?_
    obtain ⟨v1, gv1, V⟩ := V
    refine e_get fX_orderAt_6 kX_10 gv1 ?_
    obtain ⟨v3, gv3, V⟩ := V
    obtain ⟨gc, V⟩ := V
    refine e_callVi (uc' := 1) (us' := 6) (st := [.int p1]) fX_orderAt_9 wX_orderAt_9 rfl rfl gc (sp_A_size gv3) (Nat.le_of_ble_eq_true rfl) (by decide) (by decide) (fun r5 h4 ga => ?_) (fun E h4 gx => False.elim gx)
    obtain ⟨rfl, ge⟩ := ga
    replace ge := ge.symm
    subst ge
    refine e_icmp_lt (tgt := 25) fX_orderAt_12 (by decide) (fun z => ?_) (fun z => ?_)
    · have V := V.1 z
      refine e_aload_n fX_orderAt_25 rfl 0 rfl ?_
      obtain ⟨v6, gv6, V⟩ := V
      refine e_get fX_orderAt_26 kX_10 gv6 ?_
      refine e_iload_n fX_orderAt_29 rfl 1 rfl ?_
      obtain ⟨v8, gv8, V⟩ := V
      obtain ⟨gc, V⟩ := V
      refine e_callVr (uc' := 1) (us' := 6) (st := []) fX_orderAt_30 wX_orderAt_30 rfl rfl gc (sp_A_get gv8) (Nat.le_of_ble_eq_true rfl) (by decide) (by decide) (fun r10 h9 ga => ?_) (fun E h9 gx => False.elim gx)
      obtain ⟨rfl, ge⟩ := ga
      replace ge := ge.symm
      subst ge
      obtain ⟨gc, V⟩ := V
      refine e_cast fX_orderAt_33 cX_36 gc ?_
      exact e_aret fX_orderAt_36 rfl (Or.inl ⟨_, rfl⟩) V
    · have V := V.2 z
      exact e_throwN fX_orderAt_15 fX_orderAt_18 fX_orderAt_19 fX_orderAt_21 fX_orderAt_24 tX_orderAt_15 (by decide) (by decide) V
set_option maxRecDepth 20000 in
theorem vX_lineAt {l : Launch} {G : ev_G} {h : ev_AH} {P : ev_Post} {p0 : Nat} {p1 : Int32} (V : ((p1 < 0 → P (.inr "java/util/NoSuchElementException") h) ∧ (¬ p1 < 0 → ∃ v1 : Nat, ev_f h p0 0 1 = some (.ref v1) ∧ ∃ v3 : Int32, ev_f h v1 3 1 = some (.int v3) ∧ (∃ fs : List Value, h v1 = some (3, fs)) ∧ ((p1 < v3 → ∃ v6 : Nat, ev_f h p0 0 1 = some (.ref v6) ∧ ∃ v8 : Nat, ev_get h v6 p1 v8 ∧ (∃ fs : List Value, h v6 = some (3, fs)) ∧ (∃ fs : List Value, h v8 = some (2, fs)) ∧ P (.inl (some (.ref v8))) h) ∧ (¬ p1 < v3 → P (.inr "java/util/NoSuchElementException") h))))) : Mt l G M_X_lineAt [.ref p0, .int p1] h P := by
  refine Mt.of rfl rfl (Nat.le_of_ble_eq_true rfl) ?_
  show Ev l G M_X_lineAt 0 [(0, .ref p0), (1, .int p1)] [] h 1 6 (ev_fin G M_X_lineAt P)
  refine e_iload_n fX_lineAt_0 rfl 1 rfl ?_
  refine e_if_lt (tgt := 15) fX_lineAt_1 (by decide) (fun z => ?_) (fun z => ?_)
  · have V := V.1 z
    exact e_throwN fX_lineAt_15 fX_lineAt_18 fX_lineAt_19 fX_lineAt_21 fX_lineAt_24 tX_lineAt_15 (by decide) (by decide) V
  · have V := V.2 z
    refine e_iload_n fX_lineAt_4 rfl 1 rfl ?_
    refine e_aload_n fX_lineAt_5 rfl 0 rfl ?_
    obtain ⟨v1, gv1, V⟩ := V
    refine e_get fX_lineAt_6 kX_16 gv1 ?_
    obtain ⟨v3, gv3, V⟩ := V
    obtain ⟨gc, V⟩ := V
    refine e_callVi (uc' := 1) (us' := 6) (st := [.int p1]) fX_lineAt_9 wX_lineAt_9 rfl rfl gc (sp_A_size gv3) (Nat.le_of_ble_eq_true rfl) (by decide) (by decide) (fun r5 h4 ga => ?_) (fun E h4 gx => False.elim gx)
    obtain ⟨rfl, ge⟩ := ga
    replace ge := ge.symm
    subst ge
    refine e_icmp_lt (tgt := 25) fX_lineAt_12 (by decide) (fun z => ?_) (fun z => ?_)
    · have V := V.1 z
      refine e_aload_n fX_lineAt_25 rfl 0 rfl ?_
      obtain ⟨v6, gv6, V⟩ := V
      refine e_get fX_lineAt_26 kX_16 gv6 ?_
      refine e_iload_n fX_lineAt_29 rfl 1 rfl ?_
      obtain ⟨v8, gv8, V⟩ := V
      obtain ⟨gc, V⟩ := V
      refine e_callVr (uc' := 1) (us' := 6) (st := []) fX_lineAt_30 wX_lineAt_30 rfl rfl gc (sp_A_get gv8) (Nat.le_of_ble_eq_true rfl) (by decide) (by decide) (fun r10 h9 ga => ?_) (fun E h9 gx => False.elim gx)
      obtain ⟨rfl, ge⟩ := ga
      replace ge := ge.symm
      subst ge
      obtain ⟨gc, V⟩ := V
      refine e_cast fX_lineAt_33 cX_68 gc ?_
      exact e_aret fX_lineAt_36 rfl (Or.inl ⟨_, rfl⟩) V
    · have V := V.2 z
      exact e_throwN fX_lineAt_15 fX_lineAt_18 fX_lineAt_19 fX_lineAt_21 fX_lineAt_24 tX_lineAt_15 (by decide) (by decide) V
set_option maxRecDepth 20000 in
theorem vX_requireRoomForOrder {l : Launch} {G : ev_G} {h : ev_AH} {P : ev_Post} {p0 : Nat} (V : ∃ v1 : Nat, ev_f h p0 0 0 = some (.ref v1) ∧ ∃ v3 : Int32, ev_f h v1 3 1 = some (.int v3) ∧ (∃ fs : List Value, h v1 = some (3, fs)) ∧ ∃ J7 : Int32 → Prop, J7 = (fun (j6 : Int32) => ((¬ j6 = 0 → P (.inl none) h) ∧ (j6 = 0 → P (.inr "java/lang/UnsupportedOperationException") h))) ∧ ((20 ≤ v3 → J7 0) ∧ (¬ 20 ≤ v3 → J7 1))) : Mt l G M_X_requireRoomForOrder [.ref p0] h P := by
  refine Mt.of rfl rfl (Nat.le_of_ble_eq_true rfl) ?_
  show Ev l G M_X_requireRoomForOrder 0 [(0, .ref p0)] [] h 1 6 (ev_fin G M_X_requireRoomForOrder P)
  refine e_aload_n fX_requireRoomForOrder_0 rfl 0 rfl ?_
  obtain ⟨v1, gv1, V⟩ := V
  refine e_get fX_requireRoomForOrder_1 kX_10 gv1 ?_
  obtain ⟨v3, gv3, V⟩ := V
  obtain ⟨gc, V⟩ := V
  refine e_callVi (uc' := 1) (us' := 6) (st := []) fX_requireRoomForOrder_4 wX_requireRoomForOrder_4 rfl rfl gc (sp_A_size gv3) (Nat.le_of_ble_eq_true rfl) (by decide) (by decide) (fun r5 h4 ga => ?_) (fun E h4 gx => False.elim gx)
  obtain ⟨rfl, ge⟩ := ga
  replace ge := ge.symm
  subst ge
  refine e_bipush (v := 20) fX_requireRoomForOrder_7 (by decide) ?_
  obtain ⟨J7, VJ7, V⟩ := V
  have KJ7 : ∀ (j6 : Int32), J7 j6 → Ev l G M_X_requireRoomForOrder 17 [(0, .ref p0)] [.int j6] h 1 6 (ev_fin G M_X_requireRoomForOrder P) := by
    intro j6 hj
    have V := Eq.mp (congrFun VJ7 j6) hj
    refine e_callSv (uc' := 0) (us' := 0) (st := []) fX_requireRoomForOrder_17 wX_requireRoomForOrder_17 rfl rfl sp_X_requireRoom (Nat.le_of_ble_eq_true rfl) (by decide) (by decide) (fun h9 ga => ?_) (fun E h9 gx => ?_)
    · obtain ⟨rfl, z⟩ := ga
      have V := V.1 z
      exact e_vret fX_requireRoomForOrder_20 rfl V
    · obtain ⟨rfl, z, rfl⟩ := gx
      exact e_out (by decide) (V.2 z)
  refine e_icmp_ge (tgt := 16) fX_requireRoomForOrder_9 (by decide) (fun z => ?_) (fun z => ?_)
  · have V := V.1 z
    refine e_iconst (v := 0) fX_requireRoomForOrder_16 (by decide) ?_
    exact Ev.widen (by decide) (by decide) (Ev.loc [0] rfl (KJ7 _ V))
  · have V := V.2 z
    refine e_iconst (v := 1) fX_requireRoomForOrder_12 (by decide) ?_
    refine e_goto (tgt := 17) fX_requireRoomForOrder_13 (by decide) ?_
    exact Ev.widen (by decide) (by decide) (Ev.loc [0] rfl (KJ7 _ V))
set_option maxRecDepth 20000 in
theorem vX_requireRoomForLine {l : Launch} {G : ev_G} {h : ev_AH} {P : ev_Post} {p0 : Nat} (V : ∃ v1 : Nat, ev_f h p0 0 1 = some (.ref v1) ∧ ∃ v3 : Int32, ev_f h v1 3 1 = some (.int v3) ∧ (∃ fs : List Value, h v1 = some (3, fs)) ∧ ∃ J7 : Int32 → Prop, J7 = (fun (j6 : Int32) => ((¬ j6 = 0 → P (.inl none) h) ∧ (j6 = 0 → P (.inr "java/lang/UnsupportedOperationException") h))) ∧ ((60 ≤ v3 → J7 0) ∧ (¬ 60 ≤ v3 → J7 1))) : Mt l G M_X_requireRoomForLine [.ref p0] h P := by
  refine Mt.of rfl rfl (Nat.le_of_ble_eq_true rfl) ?_
  show Ev l G M_X_requireRoomForLine 0 [(0, .ref p0)] [] h 1 6 (ev_fin G M_X_requireRoomForLine P)
  refine e_aload_n fX_requireRoomForLine_0 rfl 0 rfl ?_
  obtain ⟨v1, gv1, V⟩ := V
  refine e_get fX_requireRoomForLine_1 kX_16 gv1 ?_
  obtain ⟨v3, gv3, V⟩ := V
  obtain ⟨gc, V⟩ := V
  refine e_callVi (uc' := 1) (us' := 6) (st := []) fX_requireRoomForLine_4 wX_requireRoomForLine_4 rfl rfl gc (sp_A_size gv3) (Nat.le_of_ble_eq_true rfl) (by decide) (by decide) (fun r5 h4 ga => ?_) (fun E h4 gx => False.elim gx)
  obtain ⟨rfl, ge⟩ := ga
  replace ge := ge.symm
  subst ge
  refine e_bipush (v := 60) fX_requireRoomForLine_7 (by decide) ?_
  obtain ⟨J7, VJ7, V⟩ := V
  have KJ7 : ∀ (j6 : Int32), J7 j6 → Ev l G M_X_requireRoomForLine 17 [(0, .ref p0)] [.int j6] h 1 6 (ev_fin G M_X_requireRoomForLine P) := by
    intro j6 hj
    have V := Eq.mp (congrFun VJ7 j6) hj
    refine e_callSv (uc' := 0) (us' := 0) (st := []) fX_requireRoomForLine_17 wX_requireRoomForLine_17 rfl rfl sp_X_requireRoom (Nat.le_of_ble_eq_true rfl) (by decide) (by decide) (fun h9 ga => ?_) (fun E h9 gx => ?_)
    · obtain ⟨rfl, z⟩ := ga
      have V := V.1 z
      exact e_vret fX_requireRoomForLine_20 rfl V
    · obtain ⟨rfl, z, rfl⟩ := gx
      exact e_out (by decide) (V.2 z)
  refine e_icmp_ge (tgt := 16) fX_requireRoomForLine_9 (by decide) (fun z => ?_) (fun z => ?_)
  · have V := V.1 z
    refine e_iconst (v := 0) fX_requireRoomForLine_16 (by decide) ?_
    exact Ev.widen (by decide) (by decide) (Ev.loc [0] rfl (KJ7 _ V))
  · have V := V.2 z
    refine e_iconst (v := 1) fX_requireRoomForLine_12 (by decide) ?_
    refine e_goto (tgt := 17) fX_requireRoomForLine_13 (by decide) ?_
    exact Ev.widen (by decide) (by decide) (Ev.loc [0] rfl (KJ7 _ V))
set_option maxRecDepth 20000 in
theorem vX_requireChangeValue {l : Launch} {G : ev_G} {h : ev_AH} {P : ev_Post} {p0 : Int32} {p1 : Int32} (V : ((¬ p0 = 0 → ((¬ p0 = 1 → (((¬ p1 < 0 ∧ ¬ 7 < p1) → P (.inl none) h) ∧ ((p1 < 0 ∨ 7 < p1) → P (.inr "java/lang/IllegalArgumentException") h))) ∧ (p0 = 1 → (((¬ p1 < 0 ∧ ¬ 15 < p1) → P (.inl none) h) ∧ ((p1 < 0 ∨ 15 < p1) → P (.inr "java/lang/IllegalArgumentException") h))))) ∧ (p0 = 0 → (((¬ p1 < 1 ∧ ¬ 1000 < p1) → P (.inl none) h) ∧ ((p1 < 1 ∨ 1000 < p1) → P (.inr "java/lang/IllegalArgumentException") h))))) : Mt l G M_X_requireChangeValue [.int p0, .int p1] h P := by
  refine Mt.of rfl rfl (Nat.le_of_ble_eq_true rfl) ?_
  show Ev l G M_X_requireChangeValue 0 [(0, .int p0), (1, .int p1)] [] h 3 18 (ev_fin G M_X_requireChangeValue P)
  refine e_iload_n fX_requireChangeValue_0 rfl 0 rfl ?_
  refine e_if_ne (tgt := 15) fX_requireChangeValue_1 (by decide) (fun z => ?_) (fun z => ?_)
  · have V := V.1 z
    refine e_iload_n fX_requireChangeValue_15 rfl 0 rfl ?_
    refine e_iconst (v := 1) fX_requireChangeValue_16 (by decide) ?_
    refine e_icmp_ne (tgt := 30) fX_requireChangeValue_17 (by decide) (fun z => ?_) (fun z => ?_)
    · have V := V.1 z
      refine e_iload_n fX_requireChangeValue_30 rfl 1 rfl ?_
      refine e_iconst (v := 0) fX_requireChangeValue_31 (by decide) ?_
      refine e_bipush (v := 7) fX_requireChangeValue_32 (by decide) ?_
      refine e_callSv (uc' := 2) (us' := 12) (st := []) fX_requireChangeValue_34 wX_requireChangeValue_34 rfl rfl sp_X_requireRange (Nat.le_of_ble_eq_true rfl) (by decide) (by decide) (fun h2 ga => ?_) (fun E h2 gx => ?_)
      · obtain ⟨rfl, z⟩ := ga
        have V := V.1 z
        exact e_vret fX_requireChangeValue_37 rfl V
      · obtain ⟨rfl, z, rfl⟩ := gx
        exact e_out (by decide) (V.2 z)
    · have V := V.2 z
      refine e_iload_n fX_requireChangeValue_20 rfl 1 rfl ?_
      refine e_iconst (v := 0) fX_requireChangeValue_21 (by decide) ?_
      refine e_bipush (v := 15) fX_requireChangeValue_22 (by decide) ?_
      refine e_callSv (uc' := 2) (us' := 12) (st := []) fX_requireChangeValue_24 wX_requireChangeValue_24 rfl rfl sp_X_requireRange (Nat.le_of_ble_eq_true rfl) (by decide) (by decide) (fun h4 ga => ?_) (fun E h4 gx => ?_)
      · obtain ⟨rfl, z⟩ := ga
        have V := V.1 z
        refine e_goto (tgt := 37) fX_requireChangeValue_27 (by decide) ?_
        exact e_vret fX_requireChangeValue_37 rfl V
      · obtain ⟨rfl, z, rfl⟩ := gx
        exact e_out (by decide) (V.2 z)
  · have V := V.2 z
    refine e_iload_n fX_requireChangeValue_4 rfl 1 rfl ?_
    refine e_iconst (v := 1) fX_requireChangeValue_5 (by decide) ?_
    refine e_sipush (v := 1000) fX_requireChangeValue_6 (by decide) ?_
    refine e_callSv (uc' := 2) (us' := 12) (st := []) fX_requireChangeValue_9 wX_requireChangeValue_9 rfl rfl sp_X_requireRange (Nat.le_of_ble_eq_true rfl) (by decide) (by decide) (fun h6 ga => ?_) (fun E h6 gx => ?_)
    · obtain ⟨rfl, z⟩ := ga
      have V := V.1 z
      refine e_goto (tgt := 37) fX_requireChangeValue_12 (by decide) ?_
      exact e_vret fX_requireChangeValue_37 rfl V
    · obtain ⟨rfl, z, rfl⟩ := gx
      exact e_out (by decide) (V.2 z)
set_option maxRecDepth 20000 in
theorem vX_applyChange {l : Launch} {G : ev_G} {h : ev_AH} {P : ev_Post} {p0 : Nat} {p1 : Int32} {p2 : Int32} (V : ((¬ p1 = 0 → ((¬ p1 = 1 → ∃ w1 : Value, ev_f h p0 2 4 = some w1 ∧ ∀ h2 : ev_AH, h2 = ev_s h p0 4 (.int p2) → P (.inl none) h2) ∧ (p1 = 1 → ∃ w3 : Value, ev_f h p0 2 8 = some w3 ∧ ∀ h4 : ev_AH, h4 = ev_s h p0 8 (.int p2) → P (.inl none) h4))) ∧ (p1 = 0 → ∃ w5 : Value, ev_f h p0 2 3 = some w5 ∧ ∀ h6 : ev_AH, h6 = ev_s h p0 3 (.int p2) → ∃ v7 : Int32, ev_f h6 p0 2 5 = some (.int v7) ∧ ∃ w8 : Value, ev_f h6 p0 2 5 = some w8 ∧ ∀ h9 : ev_AH, h9 = ev_s h6 p0 5 (.int (if p2 < v7 then p2 else v7)) → P (.inl none) h9))) : Mt l G M_X_applyChange [.ref p0, .int p1, .int p2] h P := by
  refine Mt.of rfl rfl (Nat.le_of_ble_eq_true rfl) ?_
  show Ev l G M_X_applyChange 0 [(0, .ref p0), (1, .int p1), (2, .int p2)] [] h 0 0 (ev_fin G M_X_applyChange P)
  refine e_iload_n fX_applyChange_0 rfl 1 rfl ?_
  refine e_if_ne (tgt := 24) fX_applyChange_1 (by decide) (fun z => ?_) (fun z => ?_)
  · have V := V.1 z
    refine e_iload_n fX_applyChange_24 rfl 1 rfl ?_
    refine e_iconst (v := 1) fX_applyChange_25 (by decide) ?_
    refine e_icmp_ne (tgt := 37) fX_applyChange_26 (by decide) (fun z => ?_) (fun z => ?_)
    · have V := V.1 z
      refine e_aload_n fX_applyChange_37 rfl 0 rfl ?_
      refine e_iload_n fX_applyChange_38 rfl 2 rfl ?_
      obtain ⟨w1, gw1, V⟩ := V
      refine e_put fX_applyChange_39 pX_157 gw1 rfl rfl (fun h2 eh2 => ?_)
      have V := V h2 eh2
      exact e_vret fX_applyChange_42 rfl V
    · have V := V.2 z
      refine e_aload_n fX_applyChange_29 rfl 0 rfl ?_
      refine e_iload_n fX_applyChange_30 rfl 2 rfl ?_
      obtain ⟨w3, gw3, V⟩ := V
      refine e_put fX_applyChange_31 pX_192 gw3 rfl rfl (fun h4 eh4 => ?_)
      have V := V h4 eh4
      refine e_goto (tgt := 42) fX_applyChange_34 (by decide) ?_
      exact e_vret fX_applyChange_42 rfl V
  · have V := V.2 z
    refine e_aload_n fX_applyChange_4 rfl 0 rfl ?_
    refine e_iload_n fX_applyChange_5 rfl 2 rfl ?_
    obtain ⟨w5, gw5, V⟩ := V
    refine e_put fX_applyChange_6 pX_85 gw5 rfl rfl (fun h6 eh6 => ?_)
    have V := V h6 eh6
    refine e_aload_n fX_applyChange_9 rfl 0 rfl ?_
    refine e_aload_n fX_applyChange_10 rfl 0 rfl ?_
    obtain ⟨v7, gv7, V⟩ := V
    refine e_get fX_applyChange_11 kX_82 gv7 ?_
    refine e_iload_n fX_applyChange_14 rfl 2 rfl ?_
    refine e_mmin fX_applyChange_15 yX_222.1 yX_222.2.1 yX_222.2.2.1 yX_222.2.2.2 (Nat.le_of_ble_eq_true rfl) (Nat.le_of_ble_eq_true rfl) ?_
    obtain ⟨w8, gw8, V⟩ := V
    refine e_put fX_applyChange_18 pX_82 gw8 rfl rfl (fun h9 eh9 => ?_)
    have V := V h9 eh9
    refine e_goto (tgt := 42) fX_applyChange_21 (by decide) ?_
    exact e_vret fX_applyChange_42 rfl V
set_option maxRecDepth 20000 in
theorem vX_firstWithOwnNumber_2 {l : Launch} {G : ev_G} {h : ev_AH} {P : ev_Post} {a0 : Nat} {a1 : Int32} {a2 : Int32} {a3 : Int32} (V : ∃ v1 : Nat, ev_f h a0 0 0 = some (.ref v1) ∧ ∃ v3 : Int32, ev_f h v1 3 1 = some (.int v3) ∧ (∃ fs : List Value, h v1 = some (3, fs)) ∧ ((v3 ≤ a3 → P (.inl (some (.int (-1)))) h) ∧ (¬ v3 ≤ a3 → ∃ v6 : Nat, ev_f h a0 0 0 = some (.ref v6) ∧ ∃ v8 : Nat, ev_get h v6 a3 v8 ∧ (∃ fs : List Value, h v6 = some (3, fs)) ∧ (∃ fs : List Value, h v8 = some (1, fs)) ∧ ∃ v11 : Int32, ev_f h v8 1 1 = some (.int v11) ∧ ((¬ v11 = a1 → ∀ x12 : Int32, x12 = a3 + 1 → Ev l G M_X_firstWithOwnNumber 2 [(0, .ref a0), (1, .int a1), (2, .int a2), (3, .int x12)] [] h 0 0 (ev_fin G M_X_firstWithOwnNumber P)) ∧ (v11 = a1 → ∃ v13 : Int32, ev_f h v8 1 2 = some (.int v13) ∧ ((¬ v13 = a2 → ∀ x14 : Int32, x14 = a3 + 1 → Ev l G M_X_firstWithOwnNumber 2 [(0, .ref a0), (1, .int a1), (2, .int a2), (3, .int x14)] [] h 0 0 (ev_fin G M_X_firstWithOwnNumber P)) ∧ (v13 = a2 → P (.inl (some (.int a3))) h))))))) : Ev l G M_X_firstWithOwnNumber 2 [(0, .ref a0), (1, .int a1), (2, .int a2), (3, .int a3)] [] h 0 0 (ev_fin G M_X_firstWithOwnNumber P) := by
  refine e_iload_n fX_firstWithOwnNumber_2 rfl 3 rfl ?_
  refine e_aload_n fX_firstWithOwnNumber_3 rfl 0 rfl ?_
  obtain ⟨v1, gv1, V⟩ := V
  refine e_get fX_firstWithOwnNumber_4 kX_10 gv1 ?_
  obtain ⟨v3, gv3, V⟩ := V
  obtain ⟨gc, V⟩ := V
  refine e_callVi (uc' := 0) (us' := 0) (st := [.int a3]) fX_firstWithOwnNumber_7 wX_firstWithOwnNumber_7 rfl rfl gc (sp_A_size gv3) (Nat.le_of_ble_eq_true rfl) (by decide) (by decide) (fun r5 h4 ga => ?_) (fun E h4 gx => False.elim gx)
  obtain ⟨rfl, ge⟩ := ga
  replace ge := ge.symm
  subst ge
  refine e_icmp_ge (tgt := 52) fX_firstWithOwnNumber_10 (by decide) (fun z => ?_) (fun z => ?_)
  · have V := V.1 z
    refine e_iconst (v := -1) fX_firstWithOwnNumber_52 (by decide) ?_
    exact e_iret fX_firstWithOwnNumber_53 rfl V
  · have V := V.2 z
    refine e_aload_n fX_firstWithOwnNumber_13 rfl 0 rfl ?_
    obtain ⟨v6, gv6, V⟩ := V
    refine e_get fX_firstWithOwnNumber_14 kX_10 gv6 ?_
    refine e_iload_n fX_firstWithOwnNumber_17 rfl 3 rfl ?_
    obtain ⟨v8, gv8, V⟩ := V
    obtain ⟨gc, V⟩ := V
    refine e_callVr (uc' := 0) (us' := 0) (st := []) fX_firstWithOwnNumber_18 wX_firstWithOwnNumber_18 rfl rfl gc (sp_A_get gv8) (Nat.le_of_ble_eq_true rfl) (by decide) (by decide) (fun r10 h9 ga => ?_) (fun E h9 gx => False.elim gx)
    obtain ⟨rfl, ge⟩ := ga
    replace ge := ge.symm
    subst ge
    obtain ⟨gc, V⟩ := V
    refine e_cast fX_firstWithOwnNumber_21 cX_36 gc ?_
    refine e_astore (ls' := [(4, .ref v8), (0, .ref a0), (1, .int a1), (2, .int a2), (3, .int a3)]) fX_firstWithOwnNumber_24 (by decide) rfl ?_
    refine e_aload fX_firstWithOwnNumber_26 0 rfl ?_
    obtain ⟨v11, gv11, V⟩ := V
    refine e_get fX_firstWithOwnNumber_28 kX_129 gv11 ?_
    refine e_iload_n fX_firstWithOwnNumber_31 rfl 2 rfl ?_
    refine e_icmp_ne (tgt := 46) fX_firstWithOwnNumber_32 (by decide) (fun z => ?_) (fun z => ?_)
    · have V := V.1 z
      obtain ⟨x12, ex12⟩ : ∃ z : Int32, z = a3 + 1 := ⟨_, rfl⟩
      have V := V x12 ex12
      refine e_iinc (v := x12) (k := 4) (ls' := [(3, .int x12), (4, .ref v8), (0, .ref a0), (1, .int a1), (2, .int a2)]) fX_firstWithOwnNumber_46 rfl (by rw [ex12]; rfl) (by decide) rfl ?_
      refine e_goto (tgt := 2) fX_firstWithOwnNumber_49 (by decide) ?_
      exact Ev.loc [2, 3, 4, 0] rfl V
    · have V := V.2 z
      refine e_aload fX_firstWithOwnNumber_35 0 rfl ?_
      obtain ⟨v13, gv13, V⟩ := V
      refine e_get fX_firstWithOwnNumber_37 kX_178 gv13 ?_
      refine e_iload_n fX_firstWithOwnNumber_40 rfl 3 rfl ?_
      refine e_icmp_ne (tgt := 46) fX_firstWithOwnNumber_41 (by decide) (fun z => ?_) (fun z => ?_)
      · have V := V.1 z
        obtain ⟨x14, ex14⟩ : ∃ z : Int32, z = a3 + 1 := ⟨_, rfl⟩
        have V := V x14 ex14
        refine e_iinc (v := x14) (k := 4) (ls' := [(3, .int x14), (4, .ref v8), (0, .ref a0), (1, .int a1), (2, .int a2)]) fX_firstWithOwnNumber_46 rfl (by rw [ex14]; rfl) (by decide) rfl ?_
        refine e_goto (tgt := 2) fX_firstWithOwnNumber_49 (by decide) ?_
        exact Ev.loc [2, 3, 4, 0] rfl V
      · have V := V.2 z
        refine e_iload_n fX_firstWithOwnNumber_44 rfl 4 rfl ?_
        exact e_iret fX_firstWithOwnNumber_45 rfl V
set_option maxRecDepth 20000 in
theorem vX_firstWithOwnNumber {l : Launch} {G : ev_G} {h : ev_AH} {P : ev_Post} {p0 : Nat} {p1 : Int32} {p2 : Int32} (V : Ev l G M_X_firstWithOwnNumber 2 [(0, .ref p0), (1, .int p1), (2, .int p2), (3, .int 0)] [] h 0 0 (ev_fin G M_X_firstWithOwnNumber P)) : Mt l G M_X_firstWithOwnNumber [.ref p0, .int p1, .int p2] h P := by
  refine Mt.of rfl rfl (Nat.le_of_ble_eq_true rfl) ?_
  show Ev l G M_X_firstWithOwnNumber 0 [(0, .ref p0), (1, .int p1), (2, .int p2)] [] h 0 0 (ev_fin G M_X_firstWithOwnNumber P)
  refine e_iconst (v := 0) fX_firstWithOwnNumber_0 (by decide) ?_
  refine e_istore_n (ls' := [(3, .int 0), (0, .ref p0), (1, .int p1), (2, .int p2)]) fX_firstWithOwnNumber_1 rfl (by decide) rfl ?_
  exact Ev.loc [1, 2, 3, 0] rfl V
set_option maxRecDepth 20000 in
theorem vX_addOrder {l : Launch} {G : ev_G} {h : ev_AH} {P : ev_Post} {p0 : Nat} {p1 : Int32} {p2 : Int32} {p3 : Int32} {p4 : Int32} (V : ∀ q1 : Nat, h q1 = none → ∀ h2 : ev_AH, h2 = ev_up h q1 (1, [.int 0, .int 0, .int 0, .int 0, .null, .int 0, .int 0, .int 0, .int 0, .int 0]) → ∃ v3 : Nat, ev_f h2 p0 0 0 = some (.ref v3) ∧ ∃ v5 : Int32, ev_f h2 v3 3 1 = some (.int v5) ∧ (∃ fs : List Value, h2 v3 = some (3, fs)) ∧ ∃ (A : ev_AH → Prop), Mt l G M_O_init [.ref q1, .int v5, .int p1, .int p2, .int p3, .int p4] h2 (ev_pv A (fun _ _ => False)) ∧ (∀ h8 : ev_AH, A h8 → ∃ v9 : Nat, ev_f h8 p0 0 0 = some (.ref v9) ∧ (∃ fs : List Value, h8 v9 = some (3, fs)) ∧ ∃ (A : Int32 → ev_AH → Prop) (X : String → ev_AH → Prop), Mt l G M_A_add0 [.ref v9, .ref q1] h8 (ev_pi A X) ∧ (∀ (r11 : Int32) (h10 : ev_AH), A r11 h10 → P (.inl (some (.ref q1))) h10) ∧ (∀ (E : String) (h9 : ev_AH), X E h9 → P (.inr E) h9))) : Mt l G M_X_addOrder [.ref p0, .int p1, .int p2, .int p3, .int p4] h P := by
  refine Mt.of rfl rfl (Nat.le_of_ble_eq_true rfl) ?_
  show Ev l G M_X_addOrder 0 [(0, .ref p0), (1, .int p1), (2, .int p2), (3, .int p3), (4, .int p4)] [] h 4 113 (ev_fin G M_X_addOrder P)
  refine e_new (uc' := 3) (us' := 103) fX_addOrder_0 nX_36 rfl (by decide) (by decide) (fun q1 gq1 h2 eh2 => ?_)
  have V := V q1 gq1 h2 eh2
  refine e_dup fX_addOrder_3 rfl ?_
  refine e_aload_n fX_addOrder_4 rfl 0 rfl ?_
  obtain ⟨v3, gv3, V⟩ := V
  refine e_get fX_addOrder_5 kX_10 gv3 ?_
  obtain ⟨v5, gv5, V⟩ := V
  obtain ⟨gc, V⟩ := V
  refine e_callVi (uc' := 3) (us' := 103) (st := [.ref q1, .ref q1]) fX_addOrder_8 wX_addOrder_8 rfl rfl gc (sp_A_size gv5) (Nat.le_of_ble_eq_true rfl) (by decide) (by decide) (fun r7 h6 ga => ?_) (fun E h6 gx => False.elim gx)
  obtain ⟨rfl, ge⟩ := ga
  replace ge := ge.symm
  subst ge
  refine e_iload_n fX_addOrder_11 rfl 1 rfl ?_
  refine e_iload_n fX_addOrder_12 rfl 2 rfl ?_
  refine e_iload_n fX_addOrder_13 rfl 3 rfl ?_
  refine e_iload fX_addOrder_14 4 rfl ?_
  obtain ⟨A, hm, V⟩ := V
  refine e_callIv (uc' := 2) (us' := 100) (st := [.ref q1]) fX_addOrder_16 wX_addOrder_16 rfl rfl hm (Nat.le_of_ble_eq_true rfl) (by decide) (by decide) (fun h8 ga => ?_)
  have V := V _ ga
  refine e_astore (ls' := [(5, .ref q1), (0, .ref p0), (1, .int p1), (2, .int p2), (3, .int p3), (4, .int p4)]) fX_addOrder_19 (by decide) rfl ?_
  refine e_aload_n fX_addOrder_21 rfl 1 rfl ?_
  obtain ⟨v9, gv9, V⟩ := V
  refine e_get fX_addOrder_22 kX_10 gv9 ?_
  refine e_aload fX_addOrder_25 0 rfl ?_
  obtain ⟨gc, V⟩ := V
  obtain ⟨A, X, hm, V, VX⟩ := V
  refine e_callVi (uc' := 0) (us' := 0) (st := []) fX_addOrder_27 wX_addOrder_27 rfl rfl gc hm (Nat.le_of_ble_eq_true rfl) (by decide) (by decide) (fun r11 h10 ga => ?_) (fun E h10 gx => ?_)
  · have V := V _ _ ga
    refine e_pop fX_addOrder_30 rfl ?_
    refine e_aload fX_addOrder_31 0 rfl ?_
    exact e_aret fX_addOrder_33 rfl (Or.inl ⟨_, rfl⟩) V
  · exact e_out (by decide) (VX E _ gx)
set_option maxRecDepth 20000 in
theorem vX_addLine {l : Launch} {G : ev_G} {h : ev_AH} {P : ev_Post} {p0 : Nat} {p1 : Nat} {p2 : Int32} {p3 : Int32} {p4 : Int32} (V : ∀ q1 : Nat, h q1 = none → ∀ h2 : ev_AH, h2 = ev_up h q1 (2, [.int 0, .int 0, .null, .int 0, .int 0, .int 0, .int 0, .int 0, .int 0, .int 0, .int 0]) → ∃ v3 : Nat, ev_f h2 p0 0 1 = some (.ref v3) ∧ ∃ v5 : Int32, ev_f h2 v3 3 1 = some (.int v5) ∧ (∃ fs : List Value, h2 v3 = some (3, fs)) ∧ ∃ (A : ev_AH → Prop), Mt l G M_L_init [.ref q1, .int v5, .ref p1, .int p2, .int p3, .int p4] h2 (ev_pv A (fun _ _ => False)) ∧ (∀ h8 : ev_AH, A h8 → ∃ v9 : Nat, ev_f h8 p0 0 1 = some (.ref v9) ∧ (∃ fs : List Value, h8 v9 = some (3, fs)) ∧ ∃ (A : Int32 → ev_AH → Prop) (X : String → ev_AH → Prop), Mt l G M_A_add0 [.ref v9, .ref q1] h8 (ev_pi A X) ∧ (∀ (r11 : Int32) (h10 : ev_AH), A r11 h10 → ∃ v12 : Nat, ev_f h10 p1 1 4 = some (.ref v12) ∧ (∃ fs : List Value, h10 v12 = some (3, fs)) ∧ ∃ (A : Int32 → ev_AH → Prop) (X : String → ev_AH → Prop), Mt l G M_A_add0 [.ref v12, .ref q1] h10 (ev_pi A X) ∧ (∀ (r14 : Int32) (h13 : ev_AH), A r14 h13 → ∃ v15 : Int32, ev_f h13 p1 1 8 = some (.int v15) ∧ ∃ w16 : Value, ev_f h13 p1 1 8 = some w16 ∧ ∀ h17 : ev_AH, h17 = ev_s h13 p1 8 (.int (v15 + 1)) → P (.inl (some (.ref q1))) h17) ∧ (∀ (E : String) (h9 : ev_AH), X E h9 → P (.inr E) h9)) ∧ (∀ (E : String) (h9 : ev_AH), X E h9 → P (.inr E) h9))) : Mt l G M_X_addLine [.ref p0, .ref p1, .int p2, .int p3, .int p4] h P := by
  refine Mt.of rfl rfl (Nat.le_of_ble_eq_true rfl) ?_
  show Ev l G M_X_addLine 0 [(0, .ref p0), (1, .ref p1), (2, .int p2), (3, .int p3), (4, .int p4)] [] h 5 211 (ev_fin G M_X_addLine P)
  refine e_new (uc' := 4) (us' := 200) fX_addLine_0 nX_68 rfl (by decide) (by decide) (fun q1 gq1 h2 eh2 => ?_)
  have V := V q1 gq1 h2 eh2
  refine e_dup fX_addLine_3 rfl ?_
  refine e_aload_n fX_addLine_4 rfl 0 rfl ?_
  obtain ⟨v3, gv3, V⟩ := V
  refine e_get fX_addLine_5 kX_16 gv3 ?_
  obtain ⟨v5, gv5, V⟩ := V
  obtain ⟨gc, V⟩ := V
  refine e_callVi (uc' := 4) (us' := 200) (st := [.ref q1, .ref q1]) fX_addLine_8 wX_addLine_8 rfl rfl gc (sp_A_size gv5) (Nat.le_of_ble_eq_true rfl) (by decide) (by decide) (fun r7 h6 ga => ?_) (fun E h6 gx => False.elim gx)
  obtain ⟨rfl, ge⟩ := ga
  replace ge := ge.symm
  subst ge
  refine e_aload_n fX_addLine_11 rfl 1 rfl ?_
  refine e_iload_n fX_addLine_12 rfl 2 rfl ?_
  refine e_iload_n fX_addLine_13 rfl 3 rfl ?_
  refine e_iload fX_addLine_14 4 rfl ?_
  obtain ⟨A, hm, V⟩ := V
  refine e_callIv (uc' := 4) (us' := 200) (st := [.ref q1]) fX_addLine_16 wX_addLine_16 rfl rfl hm (Nat.le_of_ble_eq_true rfl) (by decide) (by decide) (fun h8 ga => ?_)
  have V := V _ ga
  refine e_astore (ls' := [(5, .ref q1), (0, .ref p0), (1, .ref p1), (2, .int p2), (3, .int p3), (4, .int p4)]) fX_addLine_19 (by decide) rfl ?_
  refine e_aload_n fX_addLine_21 rfl 1 rfl ?_
  obtain ⟨v9, gv9, V⟩ := V
  refine e_get fX_addLine_22 kX_16 gv9 ?_
  refine e_aload fX_addLine_25 0 rfl ?_
  obtain ⟨gc, V⟩ := V
  obtain ⟨A, X, hm, V, VX⟩ := V
  refine e_callVi (uc' := 2) (us' := 100) (st := []) fX_addLine_27 wX_addLine_27 rfl rfl gc hm (Nat.le_of_ble_eq_true rfl) (by decide) (by decide) (fun r11 h10 ga => ?_) (fun E h10 gx => ?_)
  · have V := V _ _ ga
    refine e_pop fX_addLine_30 rfl ?_
    refine e_aload_n fX_addLine_31 rfl 2 rfl ?_
    obtain ⟨v12, gv12, V⟩ := V
    refine e_get fX_addLine_32 kX_52 gv12 ?_
    refine e_aload fX_addLine_35 0 rfl ?_
    obtain ⟨gc, V⟩ := V
    obtain ⟨A, X, hm, V, VX⟩ := V
    refine e_callVi (uc' := 0) (us' := 0) (st := []) fX_addLine_37 wX_addLine_37 rfl rfl gc hm (Nat.le_of_ble_eq_true rfl) (by decide) (by decide) (fun r14 h13 ga => ?_) (fun E h13 gx => ?_)
    · have V := V _ _ ga
      refine e_pop fX_addLine_40 rfl ?_
      refine e_aload_n fX_addLine_41 rfl 2 rfl ?_
      refine e_dup fX_addLine_42 rfl ?_
      obtain ⟨v15, gv15, V⟩ := V
      refine e_get fX_addLine_43 kX_88 gv15 ?_
      refine e_iconst (v := 1) fX_addLine_46 (by decide) ?_
      refine e_iadd fX_addLine_47 ?_
      obtain ⟨w16, gw16, V⟩ := V
      refine e_put fX_addLine_48 pX_88 gw16 rfl rfl (fun h17 eh17 => ?_)
      have V := V h17 eh17
      refine e_aload fX_addLine_51 0 rfl ?_
      exact e_aret fX_addLine_53 rfl (Or.inl ⟨_, rfl⟩) V
    · exact e_out (by decide) (VX E _ gx)
  · exact e_out (by decide) (VX E _ gx)
set_option maxRecDepth 20000 in
theorem vX_waitingBefore_4 {l : Launch} {G : ev_G} {h : ev_AH} {P : ev_Post} {a0 : Nat} {a1 : Nat} {a2 : Int32} {a3 : Int32} (V : ∃ v1 : Nat, ev_f h a0 0 0 = some (.ref v1) ∧ ∃ v3 : Int32, ev_f h v1 3 1 = some (.int v3) ∧ (∃ fs : List Value, h v1 = some (3, fs)) ∧ ((v3 ≤ a3 → P (.inl (some (.int a2))) h) ∧ (¬ v3 ≤ a3 → ∃ v6 : Nat, ev_f h a0 0 0 = some (.ref v6) ∧ ∃ v8 : Nat, ev_get h v6 a3 v8 ∧ (∃ fs : List Value, h v6 = some (3, fs)) ∧ (∃ fs : List Value, h v8 = some (1, fs)) ∧ ∃ v12 : Int32, ev_f h v8 1 6 = some (.int v12) ∧ ∃ v13 : Int32, ev_f h v8 1 7 = some (.int v13) ∧ (∃ fs : List Value, h v8 = some (1, fs)) ∧ ∃ J17 : Int32 → Prop, J17 = (fun (j16 : Int32) => ∀ x18 : Int32, x18 = a3 + 1 → Ev l G M_X_waitingBefore 4 [(0, .ref a0), (1, .ref a1), (2, .int j16), (3, .int x18)] [] h 0 0 (ev_fin G M_X_waitingBefore P)) ∧ (((ev_b ((v12 = 0 ∨ v12 = 1) ∧ v13 = 0)) = 0 → J17 a2) ∧ (¬ (ev_b ((v12 = 0 ∨ v12 = 1) ∧ v13 = 0)) = 0 → ∃ v20 : Int32, ev_f h v8 1 3 = some (.int v20) ∧ ∃ v21 : Int32, ev_f h a1 1 3 = some (.int v21) ∧ ∃ v22 : Int32, ev_f h v8 1 5 = some (.int v22) ∧ ∃ v23 : Int32, ev_f h a1 1 5 = some (.int v23) ∧ ∃ v24 : Int32, ev_f h v8 1 0 = some (.int v24) ∧ ∃ v25 : Int32, ev_f h a1 1 0 = some (.int v25) ∧ (∃ fs : List Value, h v8 = some (1, fs)) ∧ (((ev_b (ev_lex v20 v21 v22 v23 v24 v25)) = 0 → J17 a2) ∧ (¬ (ev_b (ev_lex v20 v21 v22 v23 v24 v25)) = 0 → ∀ x28 : Int32, x28 = a2 + 1 → J17 x28))))))) : Ev l G M_X_waitingBefore 4 [(0, .ref a0), (1, .ref a1), (2, .int a2), (3, .int a3)] [] h 0 0 (ev_fin G M_X_waitingBefore P) := by
  refine e_iload_n fX_waitingBefore_4 rfl 3 rfl ?_
  refine e_aload_n fX_waitingBefore_5 rfl 0 rfl ?_
  obtain ⟨v1, gv1, V⟩ := V
  refine e_get fX_waitingBefore_6 kX_10 gv1 ?_
  obtain ⟨v3, gv3, V⟩ := V
  obtain ⟨gc, V⟩ := V
  refine e_callVi (uc' := 0) (us' := 0) (st := [.int a3]) fX_waitingBefore_9 wX_waitingBefore_9 rfl rfl gc (sp_A_size gv3) (Nat.le_of_ble_eq_true rfl) (by decide) (by decide) (fun r5 h4 ga => ?_) (fun E h4 gx => False.elim gx)
  obtain ⟨rfl, ge⟩ := ga
  replace ge := ge.symm
  subst ge
  refine e_icmp_ge (tgt := 54) fX_waitingBefore_12 (by decide) (fun z => ?_) (fun z => ?_)
  · have V := V.1 z
    refine e_iload_n fX_waitingBefore_54 rfl 2 rfl ?_
    exact e_iret fX_waitingBefore_55 rfl V
  · have V := V.2 z
    refine e_aload_n fX_waitingBefore_15 rfl 0 rfl ?_
    obtain ⟨v6, gv6, V⟩ := V
    refine e_get fX_waitingBefore_16 kX_10 gv6 ?_
    refine e_iload_n fX_waitingBefore_19 rfl 3 rfl ?_
    obtain ⟨v8, gv8, V⟩ := V
    obtain ⟨gc, V⟩ := V
    refine e_callVr (uc' := 0) (us' := 0) (st := []) fX_waitingBefore_20 wX_waitingBefore_20 rfl rfl gc (sp_A_get gv8) (Nat.le_of_ble_eq_true rfl) (by decide) (by decide) (fun r10 h9 ga => ?_) (fun E h9 gx => False.elim gx)
    obtain ⟨rfl, ge⟩ := ga
    replace ge := ge.symm
    subst ge
    obtain ⟨gc, V⟩ := V
    refine e_cast fX_waitingBefore_23 cX_36 gc ?_
    refine e_astore (ls' := [(4, .ref v8), (0, .ref a0), (1, .ref a1), (2, .int a2), (3, .int a3)]) fX_waitingBefore_26 (by decide) rfl ?_
    refine e_aload fX_waitingBefore_28 0 rfl ?_
    obtain ⟨v12, gv12, V⟩ := V
    obtain ⟨v13, gv13, V⟩ := V
    obtain ⟨gc, V⟩ := V
    refine e_callVi (uc' := 0) (us' := 0) (st := []) fX_waitingBefore_30 wX_waitingBefore_30 rfl rfl gc (sp_O_isWaiting gv12 gv13) (Nat.le_of_ble_eq_true rfl) (by decide) (by decide) (fun r15 h14 ga => ?_) (fun E h14 gx => False.elim gx)
    obtain ⟨rfl, ge⟩ := ga
    replace ge := ge.symm
    subst ge
    obtain ⟨J17, VJ17, V⟩ := V
    have KJ17 : ∀ (j16 : Int32), J17 j16 → Ev l G M_X_waitingBefore 48 [(0, .ref a0), (1, .ref a1), (2, .int j16), (3, .int a3), (4, .ref v8)] [] h 0 0 (ev_fin G M_X_waitingBefore P) := by
      intro j16 hj
      have V := Eq.mp (congrFun VJ17 j16) hj
      obtain ⟨x18, ex18⟩ : ∃ z : Int32, z = a3 + 1 := ⟨_, rfl⟩
      have V := V x18 ex18
      refine e_iinc (v := x18) (k := 3) (ls' := [(3, .int x18), (0, .ref a0), (1, .ref a1), (2, .int j16), (4, .ref v8)]) fX_waitingBefore_48 rfl (by rw [ex18]; rfl) (by decide) rfl ?_
      refine e_goto (tgt := 4) fX_waitingBefore_51 (by decide) ?_
      exact Ev.loc [1, 2, 3, 0] rfl V
    refine e_if_eq (tgt := 48) fX_waitingBefore_33 (by decide) (fun z => ?_) (fun z => ?_)
    · have V := V.1 z
      exact Ev.widen (by decide) (by decide) (Ev.loc [1, 2, 3, 4, 0] rfl (KJ17 _ V))
    · have V := V.2 z
      refine e_aload fX_waitingBefore_36 0 rfl ?_
      refine e_aload_n fX_waitingBefore_38 rfl 2 rfl ?_
      obtain ⟨v20, gv20, V⟩ := V
      obtain ⟨v21, gv21, V⟩ := V
      obtain ⟨v22, gv22, V⟩ := V
      obtain ⟨v23, gv23, V⟩ := V
      obtain ⟨v24, gv24, V⟩ := V
      obtain ⟨v25, gv25, V⟩ := V
      obtain ⟨gc, V⟩ := V
      refine e_callVi (uc' := 0) (us' := 0) (st := []) fX_waitingBefore_39 wX_waitingBefore_39 rfl rfl gc (sp_O_comesBefore gv20 gv21 gv22 gv23 gv24 gv25) (Nat.le_of_ble_eq_true rfl) (by decide) (by decide) (fun r27 h26 ga => ?_) (fun E h26 gx => False.elim gx)
      obtain ⟨rfl, ge⟩ := ga
      replace ge := ge.symm
      subst ge
      refine e_if_eq (tgt := 48) fX_waitingBefore_42 (by decide) (fun z => ?_) (fun z => ?_)
      · have V := V.1 z
        exact Ev.widen (by decide) (by decide) (Ev.loc [1, 2, 3, 4, 0] rfl (KJ17 _ V))
      · have V := V.2 z
        obtain ⟨x28, ex28⟩ : ∃ z : Int32, z = a2 + 1 := ⟨_, rfl⟩
        have V := V x28 ex28
        refine e_iinc (v := x28) (k := 3) (ls' := [(2, .int x28), (4, .ref v8), (0, .ref a0), (1, .ref a1), (3, .int a3)]) fX_waitingBefore_45 rfl (by rw [ex28]; rfl) (by decide) rfl ?_
        exact Ev.widen (by decide) (by decide) (Ev.loc [2, 3, 0, 4, 1] rfl (KJ17 _ V))
set_option maxRecDepth 20000 in
theorem vX_waitingBefore {l : Launch} {G : ev_G} {h : ev_AH} {P : ev_Post} {p0 : Nat} {p1 : Nat} (V : Ev l G M_X_waitingBefore 4 [(0, .ref p0), (1, .ref p1), (2, .int 0), (3, .int 0)] [] h 0 0 (ev_fin G M_X_waitingBefore P)) : Mt l G M_X_waitingBefore [.ref p0, .ref p1] h P := by
  refine Mt.of rfl rfl (Nat.le_of_ble_eq_true rfl) ?_
  show Ev l G M_X_waitingBefore 0 [(0, .ref p0), (1, .ref p1)] [] h 0 0 (ev_fin G M_X_waitingBefore P)
  refine e_iconst (v := 0) fX_waitingBefore_0 (by decide) ?_
  refine e_istore_n (ls' := [(2, .int 0), (0, .ref p0), (1, .ref p1)]) fX_waitingBefore_1 rfl (by decide) rfl ?_
  refine e_iconst (v := 0) fX_waitingBefore_2 (by decide) ?_
  refine e_istore_n (ls' := [(3, .int 0), (2, .int 0), (0, .ref p0), (1, .ref p1)]) fX_waitingBefore_3 rfl (by decide) rfl ?_
  exact Ev.loc [2, 3, 1, 0] rfl V
set_option maxRecDepth 20000 in
theorem vX_piecesHeld_4 {l : Launch} {G : ev_G} {h : ev_AH} {P : ev_Post} {a0 : Nat} {a1 : Int32} {a2 : Int32} (V : ∃ v1 : Nat, ev_f h a0 0 1 = some (.ref v1) ∧ ∃ v3 : Int32, ev_f h v1 3 1 = some (.int v3) ∧ (∃ fs : List Value, h v1 = some (3, fs)) ∧ ((v3 ≤ a2 → P (.inl (some (.int a1))) h) ∧ (¬ v3 ≤ a2 → ∃ v6 : Nat, ev_f h a0 0 1 = some (.ref v6) ∧ ∃ v8 : Nat, ev_get h v6 a2 v8 ∧ (∃ fs : List Value, h v6 = some (3, fs)) ∧ (∃ fs : List Value, h v8 = some (2, fs)) ∧ ∃ v11 : Int32, ev_f h v8 2 9 = some (.int v11) ∧ ∃ J13 : Int32 → Prop, J13 = (fun (j12 : Int32) => ∀ x14 : Int32, x14 = a2 + 1 → Ev l G M_X_piecesHeld 4 [(0, .ref a0), (1, .int j12), (2, .int x14)] [] h 0 0 (ev_fin G M_X_piecesHeld P)) ∧ ((v11 = 0 → J13 a1) ∧ (¬ v11 = 0 → ∃ v15 : Nat, ev_f h v8 2 2 = some (.ref v15) ∧ ∃ v16 : Int32, ev_f h v15 1 6 = some (.int v16) ∧ ((4 ≤ v16 → J13 a1) ∧ (¬ 4 ≤ v16 → ∃ v17 : Int32, ev_f h v8 2 5 = some (.int v17) ∧ ∀ x18 : Int32, x18 = a1 + v17 → J13 x18))))))) : Ev l G M_X_piecesHeld 4 [(0, .ref a0), (1, .int a1), (2, .int a2)] [] h 0 0 (ev_fin G M_X_piecesHeld P) := by
  refine e_iload_n fX_piecesHeld_4 rfl 2 rfl ?_
  refine e_aload_n fX_piecesHeld_5 rfl 0 rfl ?_
  obtain ⟨v1, gv1, V⟩ := V
  refine e_get fX_piecesHeld_6 kX_16 gv1 ?_
  obtain ⟨v3, gv3, V⟩ := V
  obtain ⟨gc, V⟩ := V
  refine e_callVi (uc' := 0) (us' := 0) (st := [.int a2]) fX_piecesHeld_9 wX_piecesHeld_9 rfl rfl gc (sp_A_size gv3) (Nat.le_of_ble_eq_true rfl) (by decide) (by decide) (fun r5 h4 ga => ?_) (fun E h4 gx => False.elim gx)
  obtain ⟨rfl, ge⟩ := ga
  replace ge := ge.symm
  subst ge
  refine e_icmp_ge (tgt := 58) fX_piecesHeld_12 (by decide) (fun z => ?_) (fun z => ?_)
  · have V := V.1 z
    refine e_iload_n fX_piecesHeld_58 rfl 1 rfl ?_
    exact e_iret fX_piecesHeld_59 rfl V
  · have V := V.2 z
    refine e_aload_n fX_piecesHeld_15 rfl 0 rfl ?_
    obtain ⟨v6, gv6, V⟩ := V
    refine e_get fX_piecesHeld_16 kX_16 gv6 ?_
    refine e_iload_n fX_piecesHeld_19 rfl 2 rfl ?_
    obtain ⟨v8, gv8, V⟩ := V
    obtain ⟨gc, V⟩ := V
    refine e_callVr (uc' := 0) (us' := 0) (st := []) fX_piecesHeld_20 wX_piecesHeld_20 rfl rfl gc (sp_A_get gv8) (Nat.le_of_ble_eq_true rfl) (by decide) (by decide) (fun r10 h9 ga => ?_) (fun E h9 gx => False.elim gx)
    obtain ⟨rfl, ge⟩ := ga
    replace ge := ge.symm
    subst ge
    obtain ⟨gc, V⟩ := V
    refine e_cast fX_piecesHeld_23 cX_68 gc ?_
    refine e_astore_n (ls' := [(3, .ref v8), (0, .ref a0), (1, .int a1), (2, .int a2)]) fX_piecesHeld_26 rfl (by decide) rfl ?_
    refine e_aload_n fX_piecesHeld_27 rfl 0 rfl ?_
    obtain ⟨v11, gv11, V⟩ := V
    refine e_get fX_piecesHeld_28 kX_78 gv11 ?_
    obtain ⟨J13, VJ13, V⟩ := V
    have KJ13 : ∀ (j12 : Int32), J13 j12 → Ev l G M_X_piecesHeld 52 [(0, .ref a0), (1, .int j12), (2, .int a2), (3, .ref v8)] [] h 0 0 (ev_fin G M_X_piecesHeld P) := by
      intro j12 hj
      have V := Eq.mp (congrFun VJ13 j12) hj
      obtain ⟨x14, ex14⟩ : ∃ z : Int32, z = a2 + 1 := ⟨_, rfl⟩
      have V := V x14 ex14
      refine e_iinc (v := x14) (k := 2) (ls' := [(2, .int x14), (0, .ref a0), (1, .int j12), (3, .ref v8)]) fX_piecesHeld_52 rfl (by rw [ex14]; rfl) (by decide) rfl ?_
      refine e_goto (tgt := 4) fX_piecesHeld_55 (by decide) ?_
      exact Ev.loc [1, 2, 0] rfl V
    refine e_if_eq (tgt := 52) fX_piecesHeld_31 (by decide) (fun z => ?_) (fun z => ?_)
    · have V := V.1 z
      exact Ev.widen (by decide) (by decide) (Ev.loc [1, 2, 3, 0] rfl (KJ13 _ V))
    · have V := V.2 z
      refine e_aload_n fX_piecesHeld_34 rfl 0 rfl ?_
      obtain ⟨v15, gv15, V⟩ := V
      refine e_get fX_piecesHeld_35 kX_74 gv15 ?_
      obtain ⟨v16, gv16, V⟩ := V
      refine e_get fX_piecesHeld_38 kX_45 gv16 ?_
      refine e_iconst (v := 4) fX_piecesHeld_41 (by decide) ?_
      refine e_icmp_ge (tgt := 52) fX_piecesHeld_42 (by decide) (fun z => ?_) (fun z => ?_)
      · have V := V.1 z
        exact Ev.widen (by decide) (by decide) (Ev.loc [1, 2, 3, 0] rfl (KJ13 _ V))
      · have V := V.2 z
        refine e_iload_n fX_piecesHeld_45 rfl 2 rfl ?_
        refine e_aload_n fX_piecesHeld_46 rfl 0 rfl ?_
        obtain ⟨v17, gv17, V⟩ := V
        refine e_get fX_piecesHeld_47 kX_82 gv17 ?_
        refine e_iadd fX_piecesHeld_50 ?_
        refine e_topi (fun x18 ex18 => ?_)
        have V := V x18 ex18
        refine e_istore_n (ls' := [(1, .int x18), (3, .ref v8), (0, .ref a0), (2, .int a2)]) fX_piecesHeld_51 rfl (by decide) rfl ?_
        exact Ev.widen (by decide) (by decide) (Ev.loc [2, 0, 3, 1] rfl (KJ13 _ V))
set_option maxRecDepth 20000 in
theorem vX_piecesHeld {l : Launch} {G : ev_G} {h : ev_AH} {P : ev_Post} {p0 : Nat} (V : Ev l G M_X_piecesHeld 4 [(0, .ref p0), (1, .int 0), (2, .int 0)] [] h 0 0 (ev_fin G M_X_piecesHeld P)) : Mt l G M_X_piecesHeld [.ref p0] h P := by
  refine Mt.of rfl rfl (Nat.le_of_ble_eq_true rfl) ?_
  show Ev l G M_X_piecesHeld 0 [(0, .ref p0)] [] h 0 0 (ev_fin G M_X_piecesHeld P)
  refine e_iconst (v := 0) fX_piecesHeld_0 (by decide) ?_
  refine e_istore_n (ls' := [(1, .int 0), (0, .ref p0)]) fX_piecesHeld_1 rfl (by decide) rfl ?_
  refine e_iconst (v := 0) fX_piecesHeld_2 (by decide) ?_
  refine e_istore_n (ls' := [(2, .int 0), (1, .int 0), (0, .ref p0)]) fX_piecesHeld_3 rfl (by decide) rfl ?_
  exact Ev.loc [2, 1, 0] rfl V
set_option maxRecDepth 20000 in
theorem vX_piecesShipped_4 {l : Launch} {G : ev_G} {h : ev_AH} {P : ev_Post} {a0 : Nat} {a1 : Int32} {a2 : Int32} (V : ∃ v1 : Nat, ev_f h a0 0 1 = some (.ref v1) ∧ ∃ v3 : Int32, ev_f h v1 3 1 = some (.int v3) ∧ (∃ fs : List Value, h v1 = some (3, fs)) ∧ ((v3 ≤ a2 → P (.inl (some (.int a1))) h) ∧ (¬ v3 ≤ a2 → ∃ v6 : Nat, ev_f h a0 0 1 = some (.ref v6) ∧ ∃ v8 : Nat, ev_get h v6 a2 v8 ∧ (∃ fs : List Value, h v6 = some (3, fs)) ∧ (∃ fs : List Value, h v8 = some (2, fs)) ∧ ∃ v11 : Int32, ev_f h v8 2 7 = some (.int v11) ∧ ∀ x12 : Int32, x12 = a1 + v11 → ∀ x13 : Int32, x13 = a2 + 1 → Ev l G M_X_piecesShipped 4 [(0, .ref a0), (1, .int x12), (2, .int x13)] [] h 0 0 (ev_fin G M_X_piecesShipped P)))) : Ev l G M_X_piecesShipped 4 [(0, .ref a0), (1, .int a1), (2, .int a2)] [] h 0 0 (ev_fin G M_X_piecesShipped P) := by
  refine e_iload_n fX_piecesShipped_4 rfl 2 rfl ?_
  refine e_aload_n fX_piecesShipped_5 rfl 0 rfl ?_
  obtain ⟨v1, gv1, V⟩ := V
  refine e_get fX_piecesShipped_6 kX_16 gv1 ?_
  obtain ⟨v3, gv3, V⟩ := V
  obtain ⟨gc, V⟩ := V
  refine e_callVi (uc' := 0) (us' := 0) (st := [.int a2]) fX_piecesShipped_9 wX_piecesShipped_9 rfl rfl gc (sp_A_size gv3) (Nat.le_of_ble_eq_true rfl) (by decide) (by decide) (fun r5 h4 ga => ?_) (fun E h4 gx => False.elim gx)
  obtain ⟨rfl, ge⟩ := ga
  replace ge := ge.symm
  subst ge
  refine e_icmp_ge (tgt := 38) fX_piecesShipped_12 (by decide) (fun z => ?_) (fun z => ?_)
  · have V := V.1 z
    refine e_iload_n fX_piecesShipped_38 rfl 1 rfl ?_
    exact e_iret fX_piecesShipped_39 rfl V
  · have V := V.2 z
    refine e_iload_n fX_piecesShipped_15 rfl 1 rfl ?_
    refine e_aload_n fX_piecesShipped_16 rfl 0 rfl ?_
    obtain ⟨v6, gv6, V⟩ := V
    refine e_get fX_piecesShipped_17 kX_16 gv6 ?_
    refine e_iload_n fX_piecesShipped_20 rfl 2 rfl ?_
    obtain ⟨v8, gv8, V⟩ := V
    obtain ⟨gc, V⟩ := V
    refine e_callVr (uc' := 0) (us' := 0) (st := [.int a1]) fX_piecesShipped_21 wX_piecesShipped_21 rfl rfl gc (sp_A_get gv8) (Nat.le_of_ble_eq_true rfl) (by decide) (by decide) (fun r10 h9 ga => ?_) (fun E h9 gx => False.elim gx)
    obtain ⟨rfl, ge⟩ := ga
    replace ge := ge.symm
    subst ge
    obtain ⟨gc, V⟩ := V
    refine e_cast fX_piecesShipped_24 cX_68 gc ?_
    obtain ⟨v11, gv11, V⟩ := V
    refine e_get fX_piecesShipped_27 kX_189 gv11 ?_
    refine e_iadd fX_piecesShipped_30 ?_
    refine e_topi (fun x12 ex12 => ?_)
    have V := V x12 ex12
    refine e_istore_n (ls' := [(1, .int x12), (0, .ref a0), (2, .int a2)]) fX_piecesShipped_31 rfl (by decide) rfl ?_
    obtain ⟨x13, ex13⟩ : ∃ z : Int32, z = a2 + 1 := ⟨_, rfl⟩
    have V := V x13 ex13
    refine e_iinc (v := x13) (k := 2) (ls' := [(2, .int x13), (1, .int x12), (0, .ref a0)]) fX_piecesShipped_32 rfl (by rw [ex13]; rfl) (by decide) rfl ?_
    refine e_goto (tgt := 4) fX_piecesShipped_35 (by decide) ?_
    exact Ev.loc [2, 1, 0] rfl V
set_option maxRecDepth 20000 in
theorem vX_piecesShipped {l : Launch} {G : ev_G} {h : ev_AH} {P : ev_Post} {p0 : Nat} (V : Ev l G M_X_piecesShipped 4 [(0, .ref p0), (1, .int 0), (2, .int 0)] [] h 0 0 (ev_fin G M_X_piecesShipped P)) : Mt l G M_X_piecesShipped [.ref p0] h P := by
  refine Mt.of rfl rfl (Nat.le_of_ble_eq_true rfl) ?_
  show Ev l G M_X_piecesShipped 0 [(0, .ref p0)] [] h 0 0 (ev_fin G M_X_piecesShipped P)
  refine e_iconst (v := 0) fX_piecesShipped_0 (by decide) ?_
  refine e_istore_n (ls' := [(1, .int 0), (0, .ref p0)]) fX_piecesShipped_1 rfl (by decide) rfl ?_
  refine e_iconst (v := 0) fX_piecesShipped_2 (by decide) ?_
  refine e_istore_n (ls' := [(2, .int 0), (1, .int 0), (0, .ref p0)]) fX_piecesShipped_3 rfl (by decide) rfl ?_
  exact Ev.loc [2, 1, 0] rfl V
