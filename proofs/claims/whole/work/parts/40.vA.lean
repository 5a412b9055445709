/-! WALKS: the JDK -/
set_option maxRecDepth 20000 in
theorem vJi_bitCount {l : Launch} {G : ev_G} {h : ev_AH} {P : ev_Post} {p0 : Int32} (V : ∀ x1 : Int32, x1 = p0 - (((Int32.toUInt32 p0 >>> (Int32.toUInt32 1 &&& Int32.toUInt32 31)).toInt32) &&& 1431655765) → ∀ x2 : Int32, x2 = (x1 &&& 858993459) + (((Int32.toUInt32 x1 >>> (Int32.toUInt32 2 &&& Int32.toUInt32 31)).toInt32) &&& 858993459) → ∀ x3 : Int32, x3 = (x2 + ((Int32.toUInt32 x2 >>> (Int32.toUInt32 4 &&& Int32.toUInt32 31)).toInt32)) &&& 252645135 → ∀ x4 : Int32, x4 = x3 + ((Int32.toUInt32 x3 >>> (Int32.toUInt32 8 &&& Int32.toUInt32 31)).toInt32) → ∀ x5 : Int32, x5 = x4 + ((Int32.toUInt32 x4 >>> (Int32.toUInt32 16 &&& Int32.toUInt32 31)).toInt32) → P (.inl (some (.int (x5 &&& 63)))) h) : Mt l G M_Ji_bitCount [.int p0] h P := by
  refine Mt.ofJ rfl rfl (Nat.le_of_ble_eq_true rfl) ?_
  show Ev l G M_Ji_bitCount 0 [(0, .int p0)] [] h 0 0 (ev_fin G M_Ji_bitCount P)
  refine e_iload_n fJi_bitCount_0 rfl 0 rfl ?_
  refine e_iload_n fJi_bitCount_1 rfl 0 rfl ?_
  refine e_iconst (v := 1) fJi_bitCount_2 (by decide) ?_
  refine e_iushr fJi_bitCount_3 rfl ?_
  refine e_ldcw (v := 1431655765) fJi_bitCount_4 iJi_265 ?_
  refine e_iand fJi_bitCount_7 ?_
  refine e_isub fJi_bitCount_8 ?_
  refine e_topi (fun x1 ex1 => ?_)
  have V := V x1 ex1
  refine e_istore_n (ls' := [(0, .int x1)]) fJi_bitCount_9 rfl (by decide) rfl ?_
  refine e_iload_n fJi_bitCount_10 rfl 0 rfl ?_
  refine e_ldcw (v := 858993459) fJi_bitCount_11 iJi_266 ?_
  refine e_iand fJi_bitCount_14 ?_
  refine e_iload_n fJi_bitCount_15 rfl 0 rfl ?_
  refine e_iconst (v := 2) fJi_bitCount_16 (by decide) ?_
  refine e_iushr fJi_bitCount_17 rfl ?_
  refine e_ldcw (v := 858993459) fJi_bitCount_18 iJi_266 ?_
  refine e_iand fJi_bitCount_21 ?_
  refine e_iadd fJi_bitCount_22 ?_
  refine e_topi (fun x2 ex2 => ?_)
  have V := V x2 ex2
  refine e_istore_n (ls' := [(0, .int x2)]) fJi_bitCount_23 rfl (by decide) rfl ?_
  refine e_iload_n fJi_bitCount_24 rfl 0 rfl ?_
  refine e_iload_n fJi_bitCount_25 rfl 0 rfl ?_
  refine e_iconst (v := 4) fJi_bitCount_26 (by decide) ?_
  refine e_iushr fJi_bitCount_27 rfl ?_
  refine e_iadd fJi_bitCount_28 ?_
  refine e_ldcw (v := 252645135) fJi_bitCount_29 iJi_267 ?_
  refine e_iand fJi_bitCount_32 ?_
  refine e_topi (fun x3 ex3 => ?_)
  have V := V x3 ex3
  refine e_istore_n (ls' := [(0, .int x3)]) fJi_bitCount_33 rfl (by decide) rfl ?_
  refine e_iload_n fJi_bitCount_34 rfl 0 rfl ?_
  refine e_iload_n fJi_bitCount_35 rfl 0 rfl ?_
  refine e_bipush (v := 8) fJi_bitCount_36 (by decide) ?_
  refine e_iushr fJi_bitCount_38 rfl ?_
  refine e_iadd fJi_bitCount_39 ?_
  refine e_topi (fun x4 ex4 => ?_)
  have V := V x4 ex4
  refine e_istore_n (ls' := [(0, .int x4)]) fJi_bitCount_40 rfl (by decide) rfl ?_
  refine e_iload_n fJi_bitCount_41 rfl 0 rfl ?_
  refine e_iload_n fJi_bitCount_42 rfl 0 rfl ?_
  refine e_bipush (v := 16) fJi_bitCount_43 (by decide) ?_
  refine e_iushr fJi_bitCount_45 rfl ?_
  refine e_iadd fJi_bitCount_46 ?_
  refine e_topi (fun x5 ex5 => ?_)
  have V := V x5 ex5
  refine e_istore_n (ls' := [(0, .int x5)]) fJi_bitCount_47 rfl (by decide) rfl ?_
  refine e_iload_n fJi_bitCount_48 rfl 0 rfl ?_
  refine e_bipush (v := 63) fJi_bitCount_49 (by decide) ?_
  refine e_iand fJi_bitCount_51 ?_
  exact e_iret fJi_bitCount_52 rfl V
set_option maxRecDepth 20000 in
theorem vAc_init {l : Launch} {G : ev_G} {h : ev_AH} {P : ev_Post} {p0 : Nat} (V : P (.inl none) h) : Mt l G M_Ac_init [.ref p0] h P := by
  refine Mt.ofJ rfl rfl (Nat.le_of_ble_eq_true rfl) ?_
  show Ev l G M_Ac_init 0 [(0, .ref p0)] [] h 0 0 (ev_fin G M_Ac_init P)
  refine e_aload_n fAc_init_0 rfl 0 rfl ?_
  refine e_obj fAc_init_1 oAc_1.1 oAc_1.2.1 oAc_1.2.2 (Nat.le_of_ble_eq_true rfl) (Nat.le_of_ble_eq_true rfl) ?_
  exact e_vret fAc_init_4 rfl V
set_option maxRecDepth 20000 in
theorem vAl_init {l : Launch} {G : ev_G} {h : ev_AH} {P : ev_Post} {p0 : Nat} (V : ∃ (A : ev_AH → Prop), Mt l G M_Ac_init [.ref p0] h (ev_pv A (fun _ _ => False)) ∧ (∀ h1 : ev_AH, A h1 → ∃ w2 : Value, ev_f h1 p0 3 2 = some w2 ∧ ∀ h3 : ev_AH, h3 = ev_s h1 p0 2 (.int 0) → P (.inl none) h3)) : Mt l G M_Al_init [.ref p0] h P := by
  refine Mt.ofJ rfl rfl (Nat.le_of_ble_eq_true rfl) ?_
  show Ev l G M_Al_init 0 [(0, .ref p0)] [] h 0 0 (ev_fin G M_Al_init P)
  refine e_aload_n fAl_init_0 rfl 0 rfl ?_
  obtain ⟨A, hm, V⟩ := V
  refine e_callIv (uc' := 0) (us' := 0) (st := []) fAl_init_1 wAl_init_1 rfl rfl hm (Nat.le_of_ble_eq_true rfl) (by decide) (by decide) (fun h1 ga => ?_)
  have V := V _ ga
  refine e_aload_n fAl_init_4 rfl 0 rfl ?_
  refine e_iconst (v := 0) fAl_init_5 (by decide) ?_
  obtain ⟨w2, gw2, V⟩ := V
  refine e_put fAl_init_6 pAl_7 gw2 rfl rfl (fun h3 eh3 => ?_)
  have V := V h3 eh3
  exact e_vret fAl_init_9 rfl V
set_option maxRecDepth 20000 in
theorem vA_init {l : Launch} {G : ev_G} {h : ev_AH} {P : ev_Post} {p0 : Nat} (V : ∃ (A : ev_AH → Prop), Mt l G M_Al_init [.ref p0] h (ev_pv A (fun _ _ => False)) ∧ (∀ h1 : ev_AH, A h1 → ∃ w2 : Value, ev_f h1 p0 3 0 = some w2 ∧ ∀ h3 : ev_AH, h3 = ev_s h1 p0 0 (.ref ((g_t0 G))) → P (.inl none) h3)) : Mt l G M_A_init [.ref p0] h P := by
  refine Mt.ofJ rfl rfl (Nat.le_of_ble_eq_true rfl) ?_
  show Ev l G M_A_init 0 [(0, .ref p0)] [] h 0 0 (ev_fin G M_A_init P)
  refine e_aload_n fA_init_0 rfl 0 rfl ?_
  obtain ⟨A, hm, V⟩ := V
  refine e_callIv (uc' := 0) (us' := 0) (st := []) fA_init_1 wA_init_1 rfl rfl hm (Nat.le_of_ble_eq_true rfl) (by decide) (by decide) (fun h1 ga => ?_)
  have V := V _ ga
  refine e_aload_n fA_init_4 rfl 0 rfl ?_
  refine e_gets fA_init_5 gA_39 ?_
  obtain ⟨w2, gw2, V⟩ := V
  refine e_put fA_init_8 pA_9 gw2 rfl rfl (fun h3 eh3 => ?_)
  have V := V h3 eh3
  exact e_vret fA_init_11 rfl V
set_option maxRecDepth 20000 in
theorem vA_add0 {l : Launch} {G : ev_G} {h : ev_AH} {P : ev_Post} {p0 : Nat} {p1 : Nat} (V : ∃ v1 : Int32, ev_f h p0 3 2 = some (.int v1) ∧ ∃ w2 : Value, ev_f h p0 3 2 = some w2 ∧ ∀ h3 : ev_AH, h3 = ev_s h p0 2 (.int (v1 + 1)) → ∃ v4 : Nat, ev_f h3 p0 3 0 = some (.ref v4) ∧ ∃ v5 : Int32, ev_f h3 p0 3 1 = some (.int v5) ∧ (∃ fs : List Value, h3 p0 = some (3, fs)) ∧ ∃ (A : ev_AH → Prop) (X : String → ev_AH → Prop), Mt l G M_A_add1 [.ref p0, .ref p1, .ref v4, .int v5] h3 (ev_pv A X) ∧ (∀ h6 : ev_AH, A h6 → P (.inl (some (.int 1))) h6) ∧ (∀ (E : String) (h9 : ev_AH), X E h9 → P (.inr E) h9)) : Mt l G M_A_add0 [.ref p0, .ref p1] h P := by
  refine Mt.ofJ rfl rfl (Nat.le_of_ble_eq_true rfl) ?_
  show Ev l G M_A_add0 0 [(0, .ref p0), (1, .ref p1)] [] h 2 100 (ev_fin G M_A_add0 P)
  refine e_aload_n fA_add0_0 rfl 0 rfl ?_
  refine e_dup fA_add0_1 rfl ?_
  obtain ⟨v1, gv1, V⟩ := V
  refine e_get fA_add0_2 kA_63 gv1 ?_
  refine e_iconst (v := 1) fA_add0_5 (by decide) ?_
  refine e_iadd fA_add0_6 ?_
  obtain ⟨w2, gw2, V⟩ := V
  refine e_put fA_add0_7 pA_63 gw2 rfl rfl (fun h3 eh3 => ?_)
  have V := V h3 eh3
  refine e_aload_n fA_add0_10 rfl 0 rfl ?_
  refine e_aload_n fA_add0_11 rfl 1 rfl ?_
  refine e_aload_n fA_add0_12 rfl 0 rfl ?_
  obtain ⟨v4, gv4, V⟩ := V
  refine e_get fA_add0_13 kA_9 gv4 ?_
  refine e_aload_n fA_add0_16 rfl 0 rfl ?_
  obtain ⟨v5, gv5, V⟩ := V
  refine e_get fA_add0_17 kA_48 gv5 ?_
  obtain ⟨gc, V⟩ := V
  obtain ⟨A, X, hm, V, VX⟩ := V
  refine e_callVv (uc' := 0) (us' := 0) (st := []) fA_add0_20 wA_add0_20 rfl rfl gc hm (Nat.le_of_ble_eq_true rfl) (by decide) (by decide) (fun h6 ga => ?_) (fun E h6 gx => ?_)
  · have V := V _ ga
    refine e_iconst (v := 1) fA_add0_23 (by decide) ?_
    exact e_zret fA_add0_24 rfl rfl V
  · exact e_out (by decide) (VX E _ gx)
set_option maxRecDepth 20000 in
theorem vA_add1 {l : Launch} {G : ev_G} {h : ev_AH} {P : ev_Post} {p0 : Nat} {p1 : Nat} {p2 : Nat} {p3 : Int32} (V : ∃ n1 : Nat, ev_len G h p2 = some n1 ∧ ∃ J4 : Nat → ev_AH → Prop, (∀ (j2 : Nat) (h3 : ev_AH), J4 j2 h3 → ∃ w5 : Value, ¬ p3 < 0 ∧ ev_f h3 j2 103 (Int32.toNatClampNeg p3) = some w5 ∧ (∃ (ci : Nat) (fs : List Value) (r : vw_C), h3 p1 = some (ci, fs) ∧ ev_cl[ci]? = some r ∧ (r.1, "java/lang/Object") ∈ ev_casts) ∧ ∀ h6 : ev_AH, h6 = ev_s h3 j2 (Int32.toNatClampNeg p3) (.ref p1) → ∃ w7 : Value, ev_f h6 p0 3 1 = some w7 ∧ ∀ h8 : ev_AH, h8 = ev_s h6 p0 1 (.int (p3 + 1)) → P (.inl none) h8) ∧ ((¬ p3 = (nI n1) → J4 p2 h) ∧ (p3 = (nI n1) → (∃ fs : List Value, h p0 = some (3, fs)) ∧ ∃ (A : Nat → ev_AH → Prop) (X : String → ev_AH → Prop), Mt l G M_A_grow0 [.ref p0] h (ev_pr A X) ∧ (∀ (r10 : Nat) (h9 : ev_AH), A r10 h9 → J4 r10 h9) ∧ (∀ (E : String) (h9 : ev_AH), X E h9 → P (.inr E) h9)))) : Mt l G M_A_add1 [.ref p0, .ref p1, .ref p2, .int p3] h P := by
  refine Mt.ofJ rfl rfl (Nat.le_of_ble_eq_true rfl) ?_
  show Ev l G M_A_add1 0 [(0, .ref p0), (1, .ref p1), (2, .ref p2), (3, .int p3)] [] h 2 100 (ev_fin G M_A_add1 P)
  refine e_iload_n fA_add1_0 rfl 3 rfl ?_
  refine e_aload_n fA_add1_1 rfl 2 rfl ?_
  obtain ⟨n1, gn1, V⟩ := V
  refine e_alenQ (v := nI n1) fA_add1_2 gn1 rfl ?_
  obtain ⟨J4, VJ4, V⟩ := V
  have KJ4 : ∀ (j2 : Nat) (h3 : ev_AH), J4 j2 h3 → Ev l G M_A_add1 11 [(0, .ref p0), (1, .ref p1), (2, .ref j2), (3, .int p3)] [] h3 0 0 (ev_fin G M_A_add1 P) := by
    intro j2 h3 hj
    have V := VJ4 j2 h3 hj
    refine e_aload_n fA_add1_11 rfl 2 rfl ?_
    refine e_iload_n fA_add1_12 rfl 3 rfl ?_
    refine e_aload_n fA_add1_13 rfl 1 rfl ?_
    obtain ⟨w5, g0, gw5, V⟩ := V
    obtain ⟨⟨ci9, fs9, r9, o1, o2, o3⟩, V⟩ := V
    refine e_aast fA_add1_14 g0 gw5 o1 o2 o3 (fun h6 eh6 => ?_)
    have V := V h6 eh6
    refine e_aload_n fA_add1_15 rfl 0 rfl ?_
    refine e_iload_n fA_add1_16 rfl 3 rfl ?_
    refine e_iconst (v := 1) fA_add1_17 (by decide) ?_
    refine e_iadd fA_add1_18 ?_
    obtain ⟨w7, gw7, V⟩ := V
    refine e_put fA_add1_19 pA_48 gw7 rfl rfl (fun h8 eh8 => ?_)
    have V := V h8 eh8
    exact e_vret fA_add1_22 rfl V
  refine e_icmp_ne (tgt := 11) fA_add1_3 (by decide) (fun z => ?_) (fun z => ?_)
  · have V := V.1 z
    exact Ev.widen (by decide) (by decide) (Ev.loc [0, 1, 2, 3] rfl (KJ4 _ _ V))
  · have V := V.2 z
    refine e_aload_n fA_add1_6 rfl 0 rfl ?_
    obtain ⟨gc, V⟩ := V
    obtain ⟨A, X, hm, V, VX⟩ := V
    refine e_callVr (uc' := 0) (us' := 0) (st := []) fA_add1_7 wA_add1_7 rfl rfl gc hm (Nat.le_of_ble_eq_true rfl) (by decide) (by decide) (fun r10 h9 ga => ?_) (fun E h9 gx => ?_)
    · have V := V _ _ ga
      refine e_astore_n (ls' := [(2, .ref r10), (0, .ref p0), (1, .ref p1), (3, .int p3)]) fA_add1_10 rfl (by decide) rfl ?_
      exact Ev.widen (by decide) (by decide) (Ev.loc [1, 2, 0, 3] rfl (KJ4 _ _ V))
    · exact e_out (by decide) (VX E _ gx)
set_option maxRecDepth 20000 in
theorem vA_clear_27 {l : Launch} {G : ev_G} {h : ev_AH} {P : ev_Post} {a0 : Nat} {a1 : Nat} {a2 : Int32} {a3 : Int32} (V : ((a2 ≤ a3 → P (.inl none) h) ∧ (¬ a2 ≤ a3 → ∃ w1 : Value, ¬ a3 < 0 ∧ ev_f h a1 103 (Int32.toNatClampNeg a3) = some w1 ∧ ∀ h2 : ev_AH, h2 = ev_s h a1 (Int32.toNatClampNeg a3) (.null) → ∀ x3 : Int32, x3 = a3 + 1 → Ev l G M_A_clear 27 [(0, .ref a0), (1, .ref a1), (2, .int a2), (3, .int x3)] [] h2 0 0 (ev_fin G M_A_clear P)))) : Ev l G M_A_clear 27 [(0, .ref a0), (1, .ref a1), (2, .int a2), (3, .int a3)] [] h 0 0 (ev_fin G M_A_clear P) := by
  refine e_iload_n fA_clear_27 rfl 3 rfl ?_
  refine e_iload_n fA_clear_28 rfl 2 rfl ?_
  refine e_icmp_ge (tgt := 42) fA_clear_29 (by decide) (fun z => ?_) (fun z => ?_)
  · have V := V.1 z
    exact e_vret fA_clear_42 rfl V
  · have V := V.2 z
    refine e_aload_n fA_clear_32 rfl 1 rfl ?_
    refine e_iload_n fA_clear_33 rfl 3 rfl ?_
    refine e_null fA_clear_34 ?_
    obtain ⟨w1, g0, gw1, V⟩ := V
    refine e_aastN fA_clear_35 g0 gw1 (fun h2 eh2 => ?_)
    have V := V h2 eh2
    obtain ⟨x3, ex3⟩ : ∃ z : Int32, z = a3 + 1 := ⟨_, rfl⟩
    have V := V x3 ex3
    refine e_iinc (v := x3) (k := 3) (ls' := [(3, .int x3), (0, .ref a0), (1, .ref a1), (2, .int a2)]) fA_clear_36 rfl (by rw [ex3]; rfl) (by decide) rfl ?_
    refine e_goto (tgt := 27) fA_clear_39 (by decide) ?_
    exact Ev.loc [1, 2, 3, 0] rfl V
set_option maxRecDepth 20000 in
theorem vA_clear {l : Launch} {G : ev_G} {h : ev_AH} {P : ev_Post} {p0 : Nat} (V : ∃ v1 : Int32, ev_f h p0 3 2 = some (.int v1) ∧ ∃ w2 : Value, ev_f h p0 3 2 = some w2 ∧ ∀ h3 : ev_AH, h3 = ev_s h p0 2 (.int (v1 + 1)) → ∃ v4 : Nat, ev_f h3 p0 3 0 = some (.ref v4) ∧ ∃ v5 : Int32, ev_f h3 p0 3 1 = some (.int v5) ∧ ∃ w6 : Value, ev_f h3 p0 3 1 = some w6 ∧ ∀ h7 : ev_AH, h7 = ev_s h3 p0 1 (.int 0) → Ev l G M_A_clear 27 [(0, .ref p0), (1, .ref v4), (2, .int v5), (3, .int 0)] [] h7 0 0 (ev_fin G M_A_clear P)) : Mt l G M_A_clear [.ref p0] h P := by
  refine Mt.ofJ rfl rfl (Nat.le_of_ble_eq_true rfl) ?_
  show Ev l G M_A_clear 0 [(0, .ref p0)] [] h 0 0 (ev_fin G M_A_clear P)
  refine e_aload_n fA_clear_0 rfl 0 rfl ?_
  refine e_dup fA_clear_1 rfl ?_
  obtain ⟨v1, gv1, V⟩ := V
  refine e_get fA_clear_2 kA_63 gv1 ?_
  refine e_iconst (v := 1) fA_clear_5 (by decide) ?_
  refine e_iadd fA_clear_6 ?_
  obtain ⟨w2, gw2, V⟩ := V
  refine e_put fA_clear_7 pA_63 gw2 rfl rfl (fun h3 eh3 => ?_)
  have V := V h3 eh3
  refine e_aload_n fA_clear_10 rfl 0 rfl ?_
  obtain ⟨v4, gv4, V⟩ := V
  refine e_get fA_clear_11 kA_9 gv4 ?_
  refine e_astore_n (ls' := [(1, .ref v4), (0, .ref p0)]) fA_clear_14 rfl (by decide) rfl ?_
  refine e_aload_n fA_clear_15 rfl 1 rfl ?_
  obtain ⟨v5, gv5, V⟩ := V
  refine e_get fA_clear_16 kA_48 gv5 ?_
  refine e_istore_n (ls' := [(2, .int v5), (1, .ref v4), (0, .ref p0)]) fA_clear_19 rfl (by decide) rfl ?_
  refine e_aload_n fA_clear_20 rfl 2 rfl ?_
  refine e_iconst (v := 0) fA_clear_21 (by decide) ?_
  refine e_dup_x1 fA_clear_22 rfl rfl ?_
  obtain ⟨w6, gw6, V⟩ := V
  refine e_put fA_clear_23 pA_48 gw6 rfl rfl (fun h7 eh7 => ?_)
  have V := V h7 eh7
  refine e_istore_n (ls' := [(3, .int 0), (2, .int v5), (1, .ref v4), (0, .ref p0)]) fA_clear_26 rfl (by decide) rfl ?_
  exact Ev.loc [3, 2, 1, 0] rfl V
set_option maxRecDepth 20000 in
theorem vA_grow0 {l : Launch} {G : ev_G} {h : ev_AH} {P : ev_Post} {p0 : Nat} (V : ∃ v1 : Int32, ev_f h p0 3 1 = some (.int v1) ∧ (∃ fs : List Value, h p0 = some (3, fs)) ∧ ∃ (A : Nat → ev_AH → Prop) (X : String → ev_AH → Prop), Mt l G M_A_grow1 [.ref p0, .int (v1 + 1)] h (ev_pr A X) ∧ (∀ (r3 : Nat) (h2 : ev_AH), A r3 h2 → P (.inl (some (.ref r3))) h2) ∧ (∀ (E : String) (h9 : ev_AH), X E h9 → P (.inr E) h9)) : Mt l G M_A_grow0 [.ref p0] h P := by
  refine Mt.ofJ rfl rfl (Nat.le_of_ble_eq_true rfl) ?_
  show Ev l G M_A_grow0 0 [(0, .ref p0)] [] h 2 100 (ev_fin G M_A_grow0 P)
  refine e_aload_n fA_grow0_0 rfl 0 rfl ?_
  refine e_aload_n fA_grow0_1 rfl 0 rfl ?_
  obtain ⟨v1, gv1, V⟩ := V
  refine e_get fA_grow0_2 kA_48 gv1 ?_
  refine e_iconst (v := 1) fA_grow0_5 (by decide) ?_
  refine e_iadd fA_grow0_6 ?_
  obtain ⟨gc, V⟩ := V
  obtain ⟨A, X, hm, V, VX⟩ := V
  refine e_callVr (uc' := 0) (us' := 0) (st := []) fA_grow0_7 wA_grow0_7 rfl rfl gc hm (Nat.le_of_ble_eq_true rfl) (by decide) (by decide) (fun r3 h2 ga => ?_) (fun E h2 gx => ?_)
  · have V := V _ _ ga
    exact e_aret fA_grow0_10 rfl (Or.inr ⟨_, rfl⟩) V
  · exact e_out (by decide) (VX E _ gx)
set_option maxRecDepth 20000 in
theorem vA_grow1 {l : Launch} {G : ev_G} {h : ev_AH} {P : ev_Post} {p0 : Nat} {p1 : Int32} (V : ∃ v1 : Nat, ev_f h p0 3 0 = some (.ref v1) ∧ ∃ n2 : Nat, ev_len G h v1 = some n2 ∧ ∀ x3 : Int32, x3 = nI n2 → ((0 < x3 → ∃ (A : Int32 → ev_AH → Prop) (X : String → ev_AH → Prop), Mt l G M_Js_newLength [.int x3, .int (p1 - x3), .int (x3 >>> (1 &&& 31))] h (ev_pi A X) ∧ (∀ (r5 : Int32) (h4 : ev_AH), A r5 h4 → ∃ v6 : Nat, ev_f h4 p0 3 0 = some (.ref v6) ∧ ∃ (A : Nat → ev_AH → Prop) (X : String → ev_AH → Prop), Mt l G M_Ja_copyOf0 [.ref v6, .int r5] h4 (ev_pr A X) ∧ (∀ (r8 : Nat) (h7 : ev_AH), A r8 h7 → ∃ w9 : Value, ev_f h7 p0 3 0 = some w9 ∧ ∀ h10 : ev_AH, h10 = ev_s h7 p0 0 (.ref r8) → P (.inl (some (.ref r8))) h10) ∧ (∀ (E : String) (h9 : ev_AH), X E h9 → P (.inr E) h9)) ∧ (∀ (E : String) (h9 : ev_AH), X E h9 → P (.inr E) h9)) ∧ (¬ 0 < x3 → ∃ v11 : Nat, ev_f h p0 3 0 = some (.ref v11) ∧ ((v11 = ((g_t0 G)) → ∃ n12 : Nat, nI n12 = (if 10 < p1 then p1 else 10) ∧ n12 ≤ 10 ∧ ∀ q13 : Nat, h q13 = none → ¬ q13 = g_t0 G → ∀ h14 : ev_AH, h14 = ev_up h q13 (103, List.replicate n12 .null) → ∃ w15 : Value, ev_f h14 p0 3 0 = some w15 ∧ ∀ h16 : ev_AH, h16 = ev_s h14 p0 0 (.ref q13) → P (.inl (some (.ref q13))) h16) ∧ (¬ v11 = ((g_t0 G)) → ∃ (A : Int32 → ev_AH → Prop) (X : String → ev_AH → Prop), Mt l G M_Js_newLength [.int x3, .int (p1 - x3), .int (x3 >>> (1 &&& 31))] h (ev_pi A X) ∧ (∀ (r18 : Int32) (h17 : ev_AH), A r18 h17 → ∃ v19 : Nat, ev_f h17 p0 3 0 = some (.ref v19) ∧ ∃ (A : Nat → ev_AH → Prop) (X : String → ev_AH → Prop), Mt l G M_Ja_copyOf0 [.ref v19, .int r18] h17 (ev_pr A X) ∧ (∀ (r21 : Nat) (h20 : ev_AH), A r21 h20 → ∃ w22 : Value, ev_f h20 p0 3 0 = some w22 ∧ ∀ h23 : ev_AH, h23 = ev_s h20 p0 0 (.ref r21) → P (.inl (some (.ref r21))) h23) ∧ (∀ (E : String) (h9 : ev_AH), X E h9 → P (.inr E) h9)) ∧ (∀ (E : String) (h9 : ev_AH), X E h9 → P (.inr E) h9)))))) : Mt l G M_A_grow1 [.ref p0, .int p1] h P := by
  refine Mt.ofJ rfl rfl (Nat.le_of_ble_eq_true rfl) ?_
  show Ev l G M_A_grow1 0 [(0, .ref p0), (1, .int p1)] [] h 2 100 (ev_fin G M_A_grow1 P)
  refine e_aload_n fA_grow1_0 rfl 0 rfl ?_
  obtain ⟨v1, gv1, V⟩ := V
  refine e_get fA_grow1_1 kA_9 gv1 ?_
  obtain ⟨n2, gn2, V⟩ := V
  refine e_alenQ (v := nI n2) fA_grow1_4 gn2 rfl ?_
  refine e_topi (fun x3 ex3 => ?_)
  have V := V x3 ex3
  refine e_istore_n (ls' := [(2, .int x3), (0, .ref p0), (1, .int p1)]) fA_grow1_5 rfl (by decide) rfl ?_
  refine e_iload_n fA_grow1_6 rfl 0 rfl ?_
  refine e_if_gt (tgt := 20) fA_grow1_7 (by decide) (fun z => ?_) (fun z => ?_)
  · have V := V.1 z
    refine e_iload_n fA_grow1_20 rfl 0 rfl ?_
    refine e_iload_n fA_grow1_21 rfl 2 rfl ?_
    refine e_iload_n fA_grow1_22 rfl 0 rfl ?_
    refine e_isub fA_grow1_23 ?_
    refine e_iload_n fA_grow1_24 rfl 0 rfl ?_
    refine e_iconst (v := 1) fA_grow1_25 (by decide) ?_
    refine e_ishr fA_grow1_26 ?_
    obtain ⟨A, X, hm, V, VX⟩ := V
    refine e_callSi (uc' := 2) (us' := 100) (st := []) fA_grow1_27 wA_grow1_27 rfl rfl hm (Nat.le_of_ble_eq_true rfl) (by decide) (by decide) (fun r5 h4 ga => ?_) (fun E h4 gx => ?_)
    · have V := V _ _ ga
      refine e_istore_n (ls' := [(3, .int r5), (2, .int x3), (0, .ref p0), (1, .int p1)]) fA_grow1_30 rfl (by decide) rfl ?_
      refine e_aload_n fA_grow1_31 rfl 2 rfl ?_
      refine e_aload_n fA_grow1_32 rfl 2 rfl ?_
      obtain ⟨v6, gv6, V⟩ := V
      refine e_get fA_grow1_33 kA_9 gv6 ?_
      refine e_iload_n fA_grow1_36 rfl 0 rfl ?_
      obtain ⟨A, X, hm, V, VX⟩ := V
      refine e_callSr (uc' := 1) (us' := 10) (st := [.ref p0]) fA_grow1_37 wA_grow1_37 rfl rfl hm (Nat.le_of_ble_eq_true rfl) (by decide) (by decide) (fun r8 h7 ga => ?_) (fun E h7 gx => ?_)
      · have V := V _ _ ga
        refine e_dup_x1 fA_grow1_40 rfl rfl ?_
        obtain ⟨w9, gw9, V⟩ := V
        refine e_put fA_grow1_41 pA_9 gw9 rfl rfl (fun h10 eh10 => ?_)
        have V := V h10 eh10
        exact e_aret fA_grow1_44 rfl (Or.inr ⟨_, rfl⟩) V
      · exact e_out (by decide) (VX E _ gx)
    · exact e_out (by decide) (VX E _ gx)
  · have V := V.2 z
    refine e_aload_n fA_grow1_10 rfl 1 rfl ?_
    obtain ⟨v11, gv11, V⟩ := V
    refine e_get fA_grow1_11 kA_9 gv11 ?_
    refine e_gets fA_grow1_14 gA_39 ?_
    refine e_acmp_eq (tgt := 45) fA_grow1_17 (by decide) (fun z => ?_) (fun z => ?_)
    · have V := V.1 z
      refine e_aload_n fA_grow1_45 rfl 1 rfl ?_
      refine e_bipush (v := 10) fA_grow1_46 (by decide) ?_
      refine e_iload_n fA_grow1_48 rfl 2 rfl ?_
      refine e_mmax fA_grow1_49 yA_79.1 yA_79.2.1 yA_79.2.2.1 yA_79.2.2.2 (Nat.le_of_ble_eq_true rfl) (Nat.le_of_ble_eq_true rfl) ?_
      obtain ⟨n12, gn12, ln12, V⟩ := V
      refine e_anew (n := n12) (uc' := 1) (us' := 90) fA_grow1_52 aA_7 gn12 (by omega) (by decide) (by omega) (fun q13 gq13 tq13 h14 eh14 => ?_)
      have V := V q13 gq13 tq13 h14 eh14
      refine e_dup_x1 fA_grow1_55 rfl rfl ?_
      obtain ⟨w15, gw15, V⟩ := V
      refine e_put fA_grow1_56 pA_9 gw15 rfl rfl (fun h16 eh16 => ?_)
      have V := V h16 eh16
      exact e_aret fA_grow1_59 rfl (Or.inr ⟨_, rfl⟩) V
    · have V := V.2 z
      refine e_iload_n fA_grow1_20 rfl 0 rfl ?_
      refine e_iload_n fA_grow1_21 rfl 2 rfl ?_
      refine e_iload_n fA_grow1_22 rfl 0 rfl ?_
      refine e_isub fA_grow1_23 ?_
      refine e_iload_n fA_grow1_24 rfl 0 rfl ?_
      refine e_iconst (v := 1) fA_grow1_25 (by decide) ?_
      refine e_ishr fA_grow1_26 ?_
      obtain ⟨A, X, hm, V, VX⟩ := V
      refine e_callSi (uc' := 2) (us' := 100) (st := []) fA_grow1_27 wA_grow1_27 rfl rfl hm (Nat.le_of_ble_eq_true rfl) (by decide) (by decide) (fun r18 h17 ga => ?_) (fun E h17 gx => ?_)
      · have V := V _ _ ga
        refine e_istore_n (ls' := [(3, .int r18), (2, .int x3), (0, .ref p0), (1, .int p1)]) fA_grow1_30 rfl (by decide) rfl ?_
        refine e_aload_n fA_grow1_31 rfl 2 rfl ?_
        refine e_aload_n fA_grow1_32 rfl 2 rfl ?_
        obtain ⟨v19, gv19, V⟩ := V
        refine e_get fA_grow1_33 kA_9 gv19 ?_
        refine e_iload_n fA_grow1_36 rfl 0 rfl ?_
        obtain ⟨A, X, hm, V, VX⟩ := V
        refine e_callSr (uc' := 1) (us' := 10) (st := [.ref p0]) fA_grow1_37 wA_grow1_37 rfl rfl hm (Nat.le_of_ble_eq_true rfl) (by decide) (by decide) (fun r21 h20 ga => ?_) (fun E h20 gx => ?_)
        · have V := V _ _ ga
          refine e_dup_x1 fA_grow1_40 rfl rfl ?_
          obtain ⟨w22, gw22, V⟩ := V
          refine e_put fA_grow1_41 pA_9 gw22 rfl rfl (fun h23 eh23 => ?_)
          have V := V h23 eh23
          exact e_aret fA_grow1_44 rfl (Or.inr ⟨_, rfl⟩) V
        · exact e_out (by decide) (VX E _ gx)
      · exact e_out (by decide) (VX E _ gx)
set_option maxRecDepth 20000 in
theorem vJa_copyOf0 {l : Launch} {G : ev_G} {h : ev_AH} {P : ev_Post} {p0 : Nat} {p1 : Int32} (V : ∃ n1 : Nat, ev_n h p0 103 = some n1 ∧ ∃ (A : Nat → ev_AH → Prop) (X : String → ev_AH → Prop), Mt l G M_Ja_copyOf1 [.ref p0, .int p1, .ref ((g_mi G))] h (ev_pr A X) ∧ (∀ (r3 : Nat) (h2 : ev_AH), A r3 h2 → P (.inl (some (.ref r3))) h2) ∧ (∀ (E : String) (h9 : ev_AH), X E h9 → P (.inr E) h9)) : Mt l G M_Ja_copyOf0 [.ref p0, .int p1] h P := by
  refine Mt.ofJ rfl rfl (Nat.le_of_ble_eq_true rfl) ?_
  show Ev l G M_Ja_copyOf0 0 [(0, .ref p0), (1, .int p1)] [] h 1 90 (ev_fin G M_Ja_copyOf0 P)
  refine e_aload_n fJa_copyOf0_0 rfl 0 rfl ?_
  refine e_iload_n fJa_copyOf0_1 rfl 1 rfl ?_
  refine e_aload_n fJa_copyOf0_2 rfl 0 rfl ?_
  obtain ⟨n1, gn1, V⟩ := V
  refine e_getC fJa_copyOf0_3 xJa_86.1 xJa_86.2.1 xJa_86.2.2.1 xJa_86.2.2.2 gn1 (Nat.le_of_ble_eq_true rfl) (Nat.le_of_ble_eq_true rfl) ?_
  obtain ⟨A, X, hm, V, VX⟩ := V
  refine e_callSr (uc' := 0) (us' := 0) (st := []) fJa_copyOf0_6 wJa_copyOf0_6 rfl rfl hm (Nat.le_of_ble_eq_true rfl) (by decide) (by decide) (fun r3 h2 ga => ?_) (fun E h2 gx => ?_)
  · have V := V _ _ ga
    exact e_aret fJa_copyOf0_9 rfl (Or.inr ⟨_, rfl⟩) V
  · exact e_out (by decide) (VX E _ gx)
set_option maxRecDepth 20000 in
theorem vJa_copyOf1 {l : Launch} {G : ev_G} {h : ev_AH} {P : ev_Post} {p0 : Nat} {p1 : Int32} {p2 : Nat} (V : ((¬ p2 = ((g_mi G)) → False) ∧ (p2 = ((g_mi G)) → ∃ n1 : Nat, nI n1 = p1 ∧ n1 ≤ 90 ∧ ∀ q2 : Nat, h q2 = none → ¬ q2 = g_t0 G → ∀ h3 : ev_AH, h3 = ev_up h q2 (103, List.replicate n1 .null) → ∃ n4 : Nat, ev_len G h3 p0 = some n4 ∧ ∃ (k : Nat) (vs ws : List Value), nI k = (if p1 < (nI n4) then p1 else nI n4) ∧ h3 p0 = some (103, vs) ∧ h3 q2 = some (103, ws) ∧ k ≤ vs.length ∧ k ≤ ws.length ∧ vs.length < 1000 ∧ ev_elems h3 vs k ∧ ∀ h5 : ev_AH, h5 = ev_up h3 q2 (103, vs.take k ++ ws.drop k) → P (.inl (some (.ref q2))) h5))) : Mt l G M_Ja_copyOf1 [.ref p0, .int p1, .ref p2] h P := by
  refine Mt.ofJ rfl rfl (Nat.le_of_ble_eq_true rfl) ?_
  show Ev l G M_Ja_copyOf1 0 [(0, .ref p0), (1, .int p1), (2, .ref p2)] [] h 1 90 (ev_fin G M_Ja_copyOf1 P)
  refine e_aload_n fJa_copyOf1_0 rfl 2 rfl ?_
  refine e_ldcM fJa_copyOf1_1 mJa_110 ?_
  refine e_acmp_ne (tgt := 13) fJa_copyOf1_3 (by decide) (fun z => ?_) (fun z => ?_)
  · have V := V.1 z
    exact V.elim
  · have V := V.2 z
    refine e_iload_n fJa_copyOf1_6 rfl 1 rfl ?_
    obtain ⟨n1, gn1, ln1, V⟩ := V
    refine e_anew (n := n1) (uc' := 0) (us' := 0) fJa_copyOf1_7 aJa_2 gn1 (by omega) (by decide) (by omega) (fun q2 gq2 tq2 h3 eh3 => ?_)
    have V := V q2 gq2 tq2 h3 eh3
    refine e_goto (tgt := 24) fJa_copyOf1_10 (by decide) ?_
    refine e_astore_n (ls' := [(3, .ref q2), (0, .ref p0), (1, .int p1), (2, .ref p2)]) fJa_copyOf1_24 rfl (by decide) rfl ?_
    refine e_aload_n fJa_copyOf1_25 rfl 1 rfl ?_
    refine e_iconst (v := 0) fJa_copyOf1_26 (by decide) ?_
    refine e_aload_n fJa_copyOf1_27 rfl 0 rfl ?_
    refine e_iconst (v := 0) fJa_copyOf1_28 (by decide) ?_
    refine e_aload_n fJa_copyOf1_29 rfl 1 rfl ?_
    obtain ⟨n4, gn4, V⟩ := V
    refine e_alenQ (v := nI n4) fJa_copyOf1_30 gn4 rfl ?_
    refine e_iload_n fJa_copyOf1_31 rfl 2 rfl ?_
    refine e_mmin fJa_copyOf1_32 yJa_304.1 yJa_304.2.1 yJa_304.2.2.1 yJa_304.2.2.2 (Nat.le_of_ble_eq_true rfl) (Nat.le_of_ble_eq_true rfl) ?_
    obtain ⟨k9, vs9, ws9, z1, z2, z3, z4, z5, z6, z7, V⟩ := V
    refine e_copy fJa_copyOf1_35 xJa_150.1 xJa_150.2.1 xJa_150.2.2.1 xJa_150.2.2.2 z1 z2 z3 z4 z5 z6 z7 (Nat.le_of_ble_eq_true rfl) (Nat.le_of_ble_eq_true rfl) (fun h5 eh5 => ?_)
    have V := V h5 eh5
    refine e_aload_n fJa_copyOf1_38 rfl 0 rfl ?_
    exact e_aret fJa_copyOf1_39 rfl (Or.inr ⟨_, rfl⟩) V
set_option maxRecDepth 20000 in
theorem vJs_newLength {l : Launch} {G : ev_G} {h : ev_AH} {P : ev_Post} {p0 : Int32} {p1 : Int32} {p2 : Int32} (V : ∀ x1 : Int32, x1 = p0 + (if p1 < p2 then p2 else p1) → ((x1 ≤ 0 → False) ∧ (¬ x1 ≤ 0 → ((2147483639 < x1 → False) ∧ (¬ 2147483639 < x1 → P (.inl (some (.int x1))) h))))) : Mt l G M_Js_newLength [.int p0, .int p1, .int p2] h P := by
  refine Mt.ofJ rfl rfl (Nat.le_of_ble_eq_true rfl) ?_
  show Ev l G M_Js_newLength 0 [(0, .int p0), (1, .int p1), (2, .int p2)] [] h 0 0 (ev_fin G M_Js_newLength P)
  refine e_iload_n fJs_newLength_0 rfl 0 rfl ?_
  refine e_iload_n fJs_newLength_1 rfl 1 rfl ?_
  refine e_iload_n fJs_newLength_2 rfl 2 rfl ?_
  refine e_mmax fJs_newLength_3 yJs_194.1 yJs_194.2.1 yJs_194.2.2.1 yJs_194.2.2.2 (Nat.le_of_ble_eq_true rfl) (Nat.le_of_ble_eq_true rfl) ?_
  refine e_iadd fJs_newLength_6 ?_
  refine e_topi (fun x1 ex1 => ?_)
  have V := V x1 ex1
  refine e_istore_n (ls' := [(3, .int x1), (0, .int p0), (1, .int p1), (2, .int p2)]) fJs_newLength_7 rfl (by decide) rfl ?_
  refine e_iconst (v := 0) fJs_newLength_8 (by decide) ?_
  refine e_iload_n fJs_newLength_9 rfl 0 rfl ?_
  refine e_icmp_ge (tgt := 21) fJs_newLength_10 (by decide) (fun z => ?_) (fun z => ?_)
  · have V := V.1 z
    exact V.elim
  · have V := V.2 z
    refine e_iload_n fJs_newLength_13 rfl 0 rfl ?_
    refine e_ldc (v := 2147483639) fJs_newLength_14 iJs_200 ?_
    refine e_icmp_gt (tgt := 21) fJs_newLength_16 (by decide) (fun z => ?_) (fun z => ?_)
    · have V := V.1 z
      exact V.elim
    · have V := V.2 z
      refine e_iload_n fJs_newLength_19 rfl 0 rfl ?_
      exact e_iret fJs_newLength_20 rfl V
