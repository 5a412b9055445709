/-! THE REFERENCE: new orders, new lines -/
theorem nI_8 (o : Nat) : (8 : Int32) * nI o = nI (8 * o) := (Int32.ofNat_mul 8 o).symm
theorem nI_8k (o k : Nat) : (8 : Int32) * nI o + nI k = nI (8 * o + k) := by rw [nI_8, nI_add]
theorem st_s_of {A : st_A} {i s : Nat} (e : A 10 i = nI s) (hs : s ≤ 8) : st_s A i = s := by unfold st_s; rw [e]; exact nI_clamp (by omega)
theorem st_l_of {A : st_A} {i k j : Nat} (e : A 11 (8 * i + k) = nI j) (hj : j < 60) : st_l A i k = j := by unfold st_l; rw [e]; exact nI_clamp (by omega)
theorem st_I_10 {no nl : Nat} {A : st_A} (hI : st_I no nl A) {i : Nat} (hi : i < no) : ∃ s, s ≤ 8 ∧ i < 20 ∧ A 10 i = nI s ∧ st_s A i = s ∧ (∀ k, k < s → ∃ j, j < nl ∧ j < 60 ∧ A 11 (8 * i + k) = nI j ∧ A 13 j = nI i ∧ st_l A i k = j) ∧ (nI i).toNatClampNeg = i ∧ ¬ nI i < 0 := by
  obtain ⟨⟨h1, h2⟩, -, h3, -⟩ := hI
  obtain ⟨s, hs, e, z⟩ := h3 i hi
  refine ⟨s, hs, by omega, e, st_s_of e hs, fun k hk => ?_, nI_clamp (by omega), nI_pos (by omega)⟩
  obtain ⟨j, z1, z2, z3⟩ := z k hk
  exact ⟨j, z1, by omega, z2, z3, st_l_of z2 (by omega)⟩
section R2
variable {l : Launch} {G : ev_G} {m : Nat} {ma : Nat → Nat} {c : Int32} {no nl : Nat} {A : st_A} {h : ev_AH}
theorem rp_newOrder (hg : rm_ok m ma) (hno : no < 20) {x n r d : Int32} : Mt l G M_R_newOrder [.ref m, .int x, .int n, .int r, .int d] (RH m ma c (nI no) (nI nl) A h) (ev_pi (fun q h' => nI no = q ∧ RH m ma c (nI (no + 1)) (nI nl) (st_no A no x n r d) h = h') (fun _ _ => False)) := by
  refine vR_newOrder ?_
  have k1 : (nI no).toNatClampNeg = no := nI_clamp (by omega)
  have k2 : ¬ nI no < 0 := nI_pos (by omega)
  simp only [rh_fs, rh_s0, rh_s1, rh_s12, rh_0, rh_1, rh_2, rh_3, rh_4, rh_5, rh_6, rh_7, rh_8, rh_9, rh_10, rh_11, rh_12, rh_13, rh_14, rh_15, rh_16, rh_17, rh_18, rh_19, rh_20, rh_21, rh_22, rr_2 hg, rs_2 hg, ra_2 hg, rr_3 hg, rs_3 hg, ra_3 hg, rr_4 hg, rs_4 hg, ra_4 hg, rr_5 hg, rs_5 hg, ra_5 hg, rr_6 hg, rs_6 hg, ra_6 hg, rr_7 hg, rs_7 hg, ra_7 hg, rr_8 hg, rs_8 hg, ra_8 hg, rr_9 hg, rs_9 hg, ra_9 hg, rr_10 hg, rs_10 hg, ra_10 hg, rr_11 hg, rs_11 hg, ra_11 hg, rr_13 hg, rs_13 hg, ra_13 hg, rr_14 hg, rs_14 hg, ra_14 hg, rr_15 hg, rs_15 hg, ra_15 hg, rr_16 hg, rs_16 hg, ra_16 hg, rr_17 hg, rs_17 hg, ra_17 hg, rr_18 hg, rs_18 hg, ra_18 hg, rr_19 hg, rs_19 hg, ra_19 hg, rr_20 hg, rs_20 hg, ra_20 hg, rr_21 hg, rs_21 hg, ra_21 hg, rr_22 hg, rs_22 hg, ra_22 hg, Option.some.injEq, Value.int.injEq, Value.ref.injEq, exists_eq_left', exists_eq_left, exists_eq', exists_and_left, and_assoc, true_and, forall_eq, forall_eq', not_false_eq_true, true_implies, and_true, ev_b0, Classical.not_not]
  simp (config := { decide := true }) only [k1, k2, hno, nI_1, nI_pred, st_no, st_up_s, st_up_n, ne_eq, not_false_eq_true, not_true_eq_false, true_and, and_true, and_self, or_self, or_false, false_or, or_true, true_or, false_and, and_false, if_false, if_true, true_implies, false_implies, implies_true, exists_eq_left', exists_eq_left, forall_eq, forall_eq', ev_b0, Classical.not_not, reduceIte]
  all_goals first | exact ⟨rfl, rfl⟩ | exact ⟨rfl, fun _ => rfl⟩ | exact ⟨rfl, rfl, rfl⟩
theorem rp_hang (hg : rm_ok m ma) {o j s : Nat} (ho : o < 20) (hj : j < 60) (hs : s < 8) (e : A 10 o = nI s) : Mt l G M_R_hang [.ref m, .int (nI o), .int (nI j)] (RH m ma c (nI no) (nI nl) A h) (ev_pv (fun h' => RH m ma c (nI no) (nI nl) (st_hang A o j) h = h') (fun _ _ => False)) := by
  refine vR_hang ?_
  have k1 : (nI o).toNatClampNeg = o := nI_clamp (by omega)
  have k2 : ¬ nI o < 0 := nI_pos (by omega)
  have k3 : (nI j).toNatClampNeg = j := nI_clamp (by omega)
  have k4 : ¬ nI j < 0 := nI_pos (by omega)
  have k5 : (nI (8 * o + s)).toNatClampNeg = 8 * o + s := nI_clamp (by omega)
  have k6 : ¬ nI (8 * o + s) < 0 := nI_pos (by omega)
  have k7 : 8 * o + s < 160 := by omega
  simp only [rh_fs, rh_s0, rh_s1, rh_s12, rh_0, rh_1, rh_2, rh_3, rh_4, rh_5, rh_6, rh_7, rh_8, rh_9, rh_10, rh_11, rh_12, rh_13, rh_14, rh_15, rh_16, rh_17, rh_18, rh_19, rh_20, rh_21, rh_22, rr_2 hg, rs_2 hg, ra_2 hg, rr_3 hg, rs_3 hg, ra_3 hg, rr_4 hg, rs_4 hg, ra_4 hg, rr_5 hg, rs_5 hg, ra_5 hg, rr_6 hg, rs_6 hg, ra_6 hg, rr_7 hg, rs_7 hg, ra_7 hg, rr_8 hg, rs_8 hg, ra_8 hg, rr_9 hg, rs_9 hg, ra_9 hg, rr_10 hg, rs_10 hg, ra_10 hg, rr_11 hg, rs_11 hg, ra_11 hg, rr_13 hg, rs_13 hg, ra_13 hg, rr_14 hg, rs_14 hg, ra_14 hg, rr_15 hg, rs_15 hg, ra_15 hg, rr_16 hg, rs_16 hg, ra_16 hg, rr_17 hg, rs_17 hg, ra_17 hg, rr_18 hg, rs_18 hg, ra_18 hg, rr_19 hg, rs_19 hg, ra_19 hg, rr_20 hg, rs_20 hg, ra_20 hg, rr_21 hg, rs_21 hg, ra_21 hg, rr_22 hg, rs_22 hg, ra_22 hg, Option.some.injEq, Value.int.injEq, Value.ref.injEq, exists_eq_left', exists_eq_left, exists_eq', exists_and_left, and_assoc, true_and, forall_eq, forall_eq', not_false_eq_true, true_implies, and_true, ev_b0, Classical.not_not]
  simp (config := { decide := true }) only [k1, k2, ho, e, nI_8k, k5, k6, k7, k3, k4, hj, st_hang, st_s_of e (Nat.le_of_lt hs), st_up_s, st_up_n, ne_eq, not_false_eq_true, not_true_eq_false, true_and, and_true, and_self, or_self, or_false, false_or, or_true, true_or, false_and, and_false, if_false, if_true, true_implies, false_implies, implies_true, exists_eq_left', exists_eq_left, forall_eq, forall_eq', ev_b0, Classical.not_not, reduceIte]
theorem rp_newLine (hg : rm_ok m ma) (hnl : nl < 60) {o s : Nat} (ho : o < 20) (hs : s < 8) (e : A 10 o = nI s) {g n r : Int32} : Mt l G M_R_newLine [.ref m, .int (nI o), .int g, .int n, .int r] (RH m ma c (nI no) (nI nl) A h) (ev_pi (fun q h' => nI nl = q ∧ RH m ma c (nI no) (nI (nl + 1)) (st_nl A nl o g n r) h = h') (fun _ _ => False)) := by
  refine vR_newLine ?_
  have k1 : (nI nl).toNatClampNeg = nl := nI_clamp (by omega)
  have k2 : ¬ nI nl < 0 := nI_pos (by omega)
  have k3 : (nI o).toNatClampNeg = o := nI_clamp (by omega)
  have k4 : ¬ nI o < 0 := nI_pos (by omega)
  have k5 : narrow .boolean (.int 1) = .int 1 := rfl
  simp only [k5, rh_fs, rh_s0, rh_s1, rh_s12, rh_0, rh_1, rh_2, rh_3, rh_4, rh_5, rh_6, rh_7, rh_8, rh_9, rh_10, rh_11, rh_12, rh_13, rh_14, rh_15, rh_16, rh_17, rh_18, rh_19, rh_20, rh_21, rh_22, rr_2 hg, rs_2 hg, ra_2 hg, rr_3 hg, rs_3 hg, ra_3 hg, rr_4 hg, rs_4 hg, ra_4 hg, rr_5 hg, rs_5 hg, ra_5 hg, rr_6 hg, rs_6 hg, ra_6 hg, rr_7 hg, rs_7 hg, ra_7 hg, rr_8 hg, rs_8 hg, ra_8 hg, rr_9 hg, rs_9 hg, ra_9 hg, rr_10 hg, rs_10 hg, ra_10 hg, rr_11 hg, rs_11 hg, ra_11 hg, rr_13 hg, rs_13 hg, ra_13 hg, rr_14 hg, rs_14 hg, ra_14 hg, rr_15 hg, rs_15 hg, ra_15 hg, rr_16 hg, rs_16 hg, ra_16 hg, rr_17 hg, rs_17 hg, ra_17 hg, rr_18 hg, rs_18 hg, ra_18 hg, rr_19 hg, rs_19 hg, ra_19 hg, rr_20 hg, rs_20 hg, ra_20 hg, rr_21 hg, rs_21 hg, ra_21 hg, rr_22 hg, rs_22 hg, ra_22 hg, Option.some.injEq, Value.int.injEq, Value.ref.injEq, exists_eq_left', exists_eq_left, exists_eq', exists_and_left, and_assoc, true_and, forall_eq, forall_eq', not_false_eq_true, true_implies, and_true, ev_b0, Classical.not_not]
  simp (config := { decide := true }) only [k1, k2, hnl, st_up_s, st_up_n, ne_eq, not_false_eq_true, not_true_eq_false, true_and, and_true, and_self, or_self, or_false, false_or, or_true, true_or, false_and, and_false, if_false, if_true, true_implies, false_implies, implies_true, exists_eq_left', exists_eq_left, forall_eq, forall_eq', ev_b0, Classical.not_not, reduceIte]
  refine ⟨_, _, rp_hang hg ho hnl hs (by simp (config := { decide := true }) only [st_up_s, st_up_n, ne_eq, not_false_eq_true, not_true_eq_false, true_and, and_true, and_self, or_self, or_false, false_or, or_true, true_or, false_and, and_false, if_false, if_true, true_implies, false_implies, implies_true, exists_eq_left', exists_eq_left, forall_eq, forall_eq', ev_b0, Classical.not_not, reduceIte]; exact e), ?_, fun _ _ q => q.elim⟩
  intro h' e'
  subst e'
  simp only [rh_fs, rh_s0, rh_s1, rh_s12, rh_0, rh_1, rh_2, rh_3, rh_4, rh_5, rh_6, rh_7, rh_8, rh_9, rh_10, rh_11, rh_12, rh_13, rh_14, rh_15, rh_16, rh_17, rh_18, rh_19, rh_20, rh_21, rh_22, rr_2 hg, rs_2 hg, ra_2 hg, rr_3 hg, rs_3 hg, ra_3 hg, rr_4 hg, rs_4 hg, ra_4 hg, rr_5 hg, rs_5 hg, ra_5 hg, rr_6 hg, rs_6 hg, ra_6 hg, rr_7 hg, rs_7 hg, ra_7 hg, rr_8 hg, rs_8 hg, ra_8 hg, rr_9 hg, rs_9 hg, ra_9 hg, rr_10 hg, rs_10 hg, ra_10 hg, rr_11 hg, rs_11 hg, ra_11 hg, rr_13 hg, rs_13 hg, ra_13 hg, rr_14 hg, rs_14 hg, ra_14 hg, rr_15 hg, rs_15 hg, ra_15 hg, rr_16 hg, rs_16 hg, ra_16 hg, rr_17 hg, rs_17 hg, ra_17 hg, rr_18 hg, rs_18 hg, ra_18 hg, rr_19 hg, rs_19 hg, ra_19 hg, rr_20 hg, rs_20 hg, ra_20 hg, rr_21 hg, rs_21 hg, ra_21 hg, rr_22 hg, rs_22 hg, ra_22 hg, Option.some.injEq, Value.int.injEq, Value.ref.injEq, exists_eq_left', exists_eq_left, exists_eq', exists_and_left, and_assoc, true_and, forall_eq, forall_eq', not_false_eq_true, true_implies, and_true, ev_b0, Classical.not_not]
  simp (config := { decide := true }) only [k3, k4, ho, st_hang, nI_1, nI_pred, st_nl, st_up_s, st_up_n, ne_eq, not_false_eq_true, not_true_eq_false, true_and, and_true, and_self, or_self, or_false, false_or, or_true, true_or, false_and, and_false, if_false, if_true, true_implies, false_implies, implies_true, exists_eq_left', exists_eq_left, forall_eq, forall_eq', ev_b0, Classical.not_not, reduceIte]
  all_goals first | exact ⟨rfl, rfl⟩ | exact ⟨rfl, fun _ => rfl⟩ | exact ⟨rfl, rfl, rfl⟩
theorem rp_line (hg : rm_ok m ma) (hI : st_I no nl A) {p g n r : Int32} : Mt l G M_R_line [.ref m, .int p, .int g, .int n, .int r] (RH m ma c (nI no) (nI nl) A h) (rm_P m ma h (op_line no nl A p g n r)) := by
  refine vR_line ?_
  simp only [rh_fs, rh_s0, rh_s1, rh_s12, rh_0, rh_1, rh_2, rh_3, rh_4, rh_5, rh_6, rh_7, rh_8, rh_9, rh_10, rh_11, rh_12, rh_13, rh_14, rh_15, rh_16, rh_17, rh_18, rh_19, rh_20, rh_21, rh_22, rr_2 hg, rs_2 hg, ra_2 hg, rr_3 hg, rs_3 hg, ra_3 hg, rr_4 hg, rs_4 hg, ra_4 hg, rr_5 hg, rs_5 hg, ra_5 hg, rr_6 hg, rs_6 hg, ra_6 hg, rr_7 hg, rs_7 hg, ra_7 hg, rr_8 hg, rs_8 hg, ra_8 hg, rr_9 hg, rs_9 hg, ra_9 hg, rr_10 hg, rs_10 hg, ra_10 hg, rr_11 hg, rs_11 hg, ra_11 hg, rr_13 hg, rs_13 hg, ra_13 hg, rr_14 hg, rs_14 hg, ra_14 hg, rr_15 hg, rs_15 hg, ra_15 hg, rr_16 hg, rs_16 hg, ra_16 hg, rr_17 hg, rs_17 hg, ra_17 hg, rr_18 hg, rs_18 hg, ra_18 hg, rr_19 hg, rs_19 hg, ra_19 hg, rr_20 hg, rs_20 hg, ra_20 hg, rr_21 hg, rs_21 hg, ra_21 hg, rr_22 hg, rs_22 hg, ra_22 hg, Option.some.injEq, Value.int.injEq, Value.ref.injEq, exists_eq_left', exists_eq_left, exists_eq', exists_and_left, and_assoc, true_and, forall_eq, forall_eq', not_false_eq_true, true_implies, and_true, ev_b0, Classical.not_not]
  rcases st_ix p (n := no) (by have := hI.1; omega) with ⟨i, hi, rfl, i1, i2, i3, i4, i5⟩ | ⟨i1, i2, i3⟩
  rotate_left
  · simp (config := { decide := true }) only [i2, i3, st_up_s, st_up_n, ne_eq, not_false_eq_true, not_true_eq_false, true_and, and_true, and_self, or_self, or_false, false_or, or_true, true_or, false_and, and_false, if_false, if_true, true_implies, false_implies, implies_true, exists_eq_left', exists_eq_left, forall_eq, forall_eq', ev_b0, Classical.not_not, reduceIte, rm_P, op_line]
  obtain ⟨s, hs, k2, e10, es, -, k3, k4⟩ := st_I_10 hI hi
  simp (config := { decide := true }) only [i2, i3, i4, i5, k2, st_up_s, st_up_n, ne_eq, not_false_eq_true, not_true_eq_false, true_and, and_true, and_self, or_self, or_false, false_or, or_true, true_or, false_and, and_false, if_false, if_true, true_implies, false_implies, implies_true, exists_eq_left', exists_eq_left, forall_eq, forall_eq', ev_b0, Classical.not_not, reduceIte, rm_P, op_line, op_line1]
  by_cases c1 : 0 ≤ g ∧ g ≤ 15
  rotate_left
  · simp (config := { decide := true }) only [c1, st_up_s, st_up_n, ne_eq, not_false_eq_true, not_true_eq_false, true_and, and_true, and_self, or_self, or_false, false_or, or_true, true_or, false_and, and_false, if_false, if_true, true_implies, false_implies, implies_true, exists_eq_left', exists_eq_left, forall_eq, forall_eq', ev_b0, Classical.not_not, reduceIte]
  by_cases c2 : 1 ≤ n ∧ n ≤ 1000
  rotate_left
  · simp (config := { decide := true }) only [c1, c2, st_up_s, st_up_n, ne_eq, not_false_eq_true, not_true_eq_false, true_and, and_true, and_self, or_self, or_false, false_or, or_true, true_or, false_and, and_false, if_false, if_true, true_implies, false_implies, implies_true, exists_eq_left', exists_eq_left, forall_eq, forall_eq', ev_b0, Classical.not_not, reduceIte]
  by_cases c3 : 0 ≤ r ∧ r ≤ 7
  rotate_left
  · simp (config := { decide := true }) only [c1, c2, c3, st_up_s, st_up_n, ne_eq, not_false_eq_true, not_true_eq_false, true_and, and_true, and_self, or_self, or_false, false_or, or_true, true_or, false_and, and_false, if_false, if_true, true_implies, false_implies, implies_true, exists_eq_left', exists_eq_left, forall_eq, forall_eq', ev_b0, Classical.not_not, reduceIte]
  by_cases c4 : A 6 i = 0
  rotate_left
  · simp (config := { decide := true }) only [c1, c2, c3, c4, st_up_s, st_up_n, ne_eq, not_false_eq_true, not_true_eq_false, true_and, and_true, and_self, or_self, or_false, false_or, or_true, true_or, false_and, and_false, if_false, if_true, true_implies, false_implies, implies_true, exists_eq_left', exists_eq_left, forall_eq, forall_eq', ev_b0, Classical.not_not, reduceIte]
  by_cases c5 : nI nl = 60
  · simp (config := { decide := true }) only [c1, c2, c3, c4, c5, st_up_s, st_up_n, ne_eq, not_false_eq_true, not_true_eq_false, true_and, and_true, and_self, or_self, or_false, false_or, or_true, true_or, false_and, and_false, if_false, if_true, true_implies, false_implies, implies_true, exists_eq_left', exists_eq_left, forall_eq, forall_eq', ev_b0, Classical.not_not, reduceIte]
  by_cases c6 : A 10 i = 8
  · simp (config := { decide := true }) only [c1, c2, c3, c4, c5, c6, st_up_s, st_up_n, ne_eq, not_false_eq_true, not_true_eq_false, true_and, and_true, and_self, or_self, or_false, false_or, or_true, true_or, false_and, and_false, if_false, if_true, true_implies, false_implies, implies_true, exists_eq_left', exists_eq_left, forall_eq, forall_eq', ev_b0, Classical.not_not, reduceIte]
  simp (config := { decide := true }) only [c1, c2, c3, c4, c5, c6, st_up_s, st_up_n, ne_eq, not_false_eq_true, not_true_eq_false, true_and, and_true, and_self, or_self, or_false, false_or, or_true, true_or, false_and, and_false, if_false, if_true, true_implies, false_implies, implies_true, exists_eq_left', exists_eq_left, forall_eq, forall_eq', ev_b0, Classical.not_not, reduceIte]
  refine ⟨_, _, rp_newLine hg ?_ k2 ?_ e10, fun q h' e => ?_, fun _ _ q => q.elim⟩
  · have := hI.1
    have : nl ≠ 60 := fun y => c5 (by rw [y]; rfl)
    omega
  · have : s ≠ 8 := fun y => c6 (by rw [e10, y]; rfl)
    omega
  · exact ⟨e.2.symm, e.1.symm⟩
end R2
