/-! WALKS: more helpers -/
set_option maxRecDepth 20000 in
theorem vA_get {l : Launch} {G : ev_G} {h : ev_AH} {P : ev_Post} {p0 : Nat} {p1 : Int32} (V : ∃ v1 : Int32, ev_f h p0 3 1 = some (.int v1) ∧ ∃ (A : Int32 → ev_AH → Prop) (X : String → ev_AH → Prop), Mt l G M_Jo_checkIndex [.int p1, .int v1] h (ev_pi A X) ∧ (∀ (r3 : Int32) (h2 : ev_AH), A r3 h2 → (∃ fs : List Value, h2 p0 = some (3, fs)) ∧ ∃ (A : Nat → ev_AH → Prop) (X : String → ev_AH → Prop), Mt l G M_A_elementData [.ref p0, .int p1] h2 (ev_pr A X) ∧ (∀ (r5 : Nat) (h4 : ev_AH), A r5 h4 → P (.inl (some (.ref r5))) h4) ∧ (∀ (E : String) (h9 : ev_AH), X E h9 → P (.inr E) h9)) ∧ (∀ (E : String) (h9 : ev_AH), X E h9 → P (.inr E) h9)) : Mt l G M_A_get [.ref p0, .int p1] h P := by
  refine Mt.ofJ rfl rfl (Nat.le_of_ble_eq_true rfl) ?_
  show Ev l G M_A_get 0 [(0, .ref p0), (1, .int p1)] [] h 0 0 (ev_fin G M_A_get P)
  refine e_iload_n fA_get_0 rfl 1 rfl ?_
  refine e_aload_n fA_get_1 rfl 0 rfl ?_
  obtain ⟨v1, gv1, V⟩ := V
  refine e_get fA_get_2 kA_48 gv1 ?_
  obtain ⟨A, X, hm, V, VX⟩ := V
  refine e_callSi (uc' := 0) (us' := 0) (st := []) fA_get_5 wA_get_5 rfl rfl hm (Nat.le_of_ble_eq_true rfl) (by decide) (by decide) (fun r3 h2 ga => ?_) (fun E h2 gx => ?_)
  · have V := V _ _ ga
    refine e_pop fA_get_8 rfl ?_
    refine e_aload_n fA_get_9 rfl 0 rfl ?_
    refine e_iload_n fA_get_10 rfl 1 rfl ?_
    obtain ⟨gc, V⟩ := V
    obtain ⟨A, X, hm, V, VX⟩ := V
    refine e_callVr (uc' := 0) (us' := 0) (st := []) fA_get_11 wA_get_11 rfl rfl gc hm (Nat.le_of_ble_eq_true rfl) (by decide) (by decide) (fun r5 h4 ga => ?_) (fun E h4 gx => ?_)
    · have V := V _ _ ga
      exact e_aret fA_get_14 rfl (Or.inl ⟨_, rfl⟩) V
    · exact e_out (by decide) (VX E _ gx)
  · exact e_out (by decide) (VX E _ gx)
set_option maxRecDepth 20000 in
theorem vR_isReady {l : Launch} {G : ev_G} {h : ev_AH} {P : ev_Post} {p0 : Nat} {p1 : Int32} (V : ∃ v1 : Nat, ev_f h p0 4 18 = some (.ref v1) ∧ ∃ v2 : Int32, ¬ p1 < 0 ∧ ev_f h v1 100 (Int32.toNatClampNeg p1) = some (.int v2) ∧ ∃ v3 : Nat, ev_f h p0 4 17 = some (.ref v3) ∧ ∃ v4 : Int32, ¬ p1 < 0 ∧ ev_f h v3 100 (Int32.toNatClampNeg p1) = some (.int v4) ∧ ((v2 = v4 → P (.inl (some (.int 1))) h) ∧ (¬ v2 = v4 → ∃ v6 : Int32, ev_ar h p0 16 p1 v6 ∧ (∃ fs : List Value, h p0 = some (4, fs)) ∧ (((ev_b (¬ (v6 &&& 1) = 0)) = 0 → ∃ v10 : Int32, ev_ar h p0 16 p1 v10 ∧ (∃ fs : List Value, h p0 = some (4, fs)) ∧ (((ev_b (¬ (v10 &&& 4) = 0)) = 0 → P (.inl (some (.int 0))) h) ∧ (¬ (ev_b (¬ (v10 &&& 4) = 0)) = 0 → P (.inl (some (.int 1))) h))) ∧ (¬ (ev_b (¬ (v6 &&& 1) = 0)) = 0 → ∃ v13 : Nat, ev_f h p0 4 18 = some (.ref v13) ∧ ∃ v14 : Int32, ¬ p1 < 0 ∧ ev_f h v13 100 (Int32.toNatClampNeg p1) = some (.int v14) ∧ ((0 < v14 → P (.inl (some (.int 1))) h) ∧ (¬ 0 < v14 → ∃ v16 : Int32, ev_ar h p0 16 p1 v16 ∧ (∃ fs : List Value, h p0 = some (4, fs)) ∧ (((ev_b (¬ (v16 &&& 4) = 0)) = 0 → P (.inl (some (.int 0))) h) ∧ (¬ (ev_b (¬ (v16 &&& 4) = 0)) = 0 → P (.inl (some (.int 1))) h))))))))) : Mt l G M_R_isReady [.ref p0, .int p1] h P := by
  refine Mt.of rfl rfl (Nat.le_of_ble_eq_true rfl) ?_
  show Ev l G M_R_isReady 0 [(0, .ref p0), (1, .int p1)] [] h 0 0 (ev_fin G M_R_isReady P)
  refine e_aload_n fR_isReady_0 rfl 0 rfl ?_
  obtain ⟨v1, gv1, V⟩ := V
  refine e_get fR_isReady_1 kR_55 gv1 ?_
  refine e_iload_n fR_isReady_4 rfl 1 rfl ?_
  obtain ⟨v2, g0, gv2, V⟩ := V
  refine e_iald fR_isReady_5 g0 gv2 ?_
  refine e_aload_n fR_isReady_6 rfl 0 rfl ?_
  obtain ⟨v3, gv3, V⟩ := V
  refine e_get fR_isReady_7 kR_52 gv3 ?_
  refine e_iload_n fR_isReady_10 rfl 1 rfl ?_
  obtain ⟨v4, g0, gv4, V⟩ := V
  refine e_iald fR_isReady_11 g0 gv4 ?_
  refine e_icmp_eq (tgt := 42) fR_isReady_12 (by decide) (fun z => ?_) (fun z => ?_)
  · have V := V.1 z
    refine e_iconst (v := 1) fR_isReady_42 (by decide) ?_
    refine e_goto (tgt := 47) fR_isReady_43 (by decide) ?_
    exact e_zret fR_isReady_47 rfl rfl V
  · have V := V.2 z
    refine e_aload_n fR_isReady_15 rfl 0 rfl ?_
    refine e_iload_n fR_isReady_16 rfl 1 rfl ?_
    refine e_iconst (v := 1) fR_isReady_17 (by decide) ?_
    obtain ⟨v6, gv6, V⟩ := V
    obtain ⟨gc, V⟩ := V
    refine e_callVi (uc' := 0) (us' := 0) (st := []) fR_isReady_18 wR_isReady_18 rfl rfl gc (sp_R_has gv6) (Nat.le_of_ble_eq_true rfl) (by decide) (by decide) (fun r8 h7 ga => ?_) (fun E h7 gx => False.elim gx)
    obtain ⟨rfl, ge⟩ := ga
    replace ge := ge.symm
    subst ge
    refine e_if_eq (tgt := 33) fR_isReady_21 (by decide) (fun z => ?_) (fun z => ?_)
    · have V := V.1 z
      refine e_aload_n fR_isReady_33 rfl 0 rfl ?_
      refine e_iload_n fR_isReady_34 rfl 1 rfl ?_
      refine e_iconst (v := 4) fR_isReady_35 (by decide) ?_
      obtain ⟨v10, gv10, V⟩ := V
      obtain ⟨gc, V⟩ := V
      refine e_callVi (uc' := 0) (us' := 0) (st := []) fR_isReady_36 wR_isReady_36 rfl rfl gc (sp_R_has gv10) (Nat.le_of_ble_eq_true rfl) (by decide) (by decide) (fun r12 h11 ga => ?_) (fun E h11 gx => False.elim gx)
      obtain ⟨rfl, ge⟩ := ga
      replace ge := ge.symm
      subst ge
      refine e_if_eq (tgt := 46) fR_isReady_39 (by decide) (fun z => ?_) (fun z => ?_)
      · have V := V.1 z
        refine e_iconst (v := 0) fR_isReady_46 (by decide) ?_
        exact e_zret fR_isReady_47 rfl rfl V
      · have V := V.2 z
        refine e_iconst (v := 1) fR_isReady_42 (by decide) ?_
        refine e_goto (tgt := 47) fR_isReady_43 (by decide) ?_
        exact e_zret fR_isReady_47 rfl rfl V
    · have V := V.2 z
      refine e_aload_n fR_isReady_24 rfl 0 rfl ?_
      obtain ⟨v13, gv13, V⟩ := V
      refine e_get fR_isReady_25 kR_55 gv13 ?_
      refine e_iload_n fR_isReady_28 rfl 1 rfl ?_
      obtain ⟨v14, g0, gv14, V⟩ := V
      refine e_iald fR_isReady_29 g0 gv14 ?_
      refine e_if_gt (tgt := 42) fR_isReady_30 (by decide) (fun z => ?_) (fun z => ?_)
      · have V := V.1 z
        refine e_iconst (v := 1) fR_isReady_42 (by decide) ?_
        refine e_goto (tgt := 47) fR_isReady_43 (by decide) ?_
        exact e_zret fR_isReady_47 rfl rfl V
      · have V := V.2 z
        refine e_aload_n fR_isReady_33 rfl 0 rfl ?_
        refine e_iload_n fR_isReady_34 rfl 1 rfl ?_
        refine e_iconst (v := 4) fR_isReady_35 (by decide) ?_
        obtain ⟨v16, gv16, V⟩ := V
        obtain ⟨gc, V⟩ := V
        refine e_callVi (uc' := 0) (us' := 0) (st := []) fR_isReady_36 wR_isReady_36 rfl rfl gc (sp_R_has gv16) (Nat.le_of_ble_eq_true rfl) (by decide) (by decide) (fun r18 h17 ga => ?_) (fun E h17 gx => False.elim gx)
        obtain ⟨rfl, ge⟩ := ga
        replace ge := ge.symm
        subst ge
        refine e_if_eq (tgt := 46) fR_isReady_39 (by decide) (fun z => ?_) (fun z => ?_)
        · have V := V.1 z
          refine e_iconst (v := 0) fR_isReady_46 (by decide) ?_
          exact e_zret fR_isReady_47 rfl rfl V
        · have V := V.2 z
          refine e_iconst (v := 1) fR_isReady_42 (by decide) ?_
          refine e_goto (tgt := 47) fR_isReady_43 (by decide) ?_
          exact e_zret fR_isReady_47 rfl rfl V
