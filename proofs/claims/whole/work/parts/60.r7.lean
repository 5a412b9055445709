/-! THE REFERENCE: join, backorder -/
theorem st_hang_n {A : st_A} {o l g j : Nat} (h1 : g ≠ 10) (h2 : g ≠ 11) (h3 : g ≠ 13) : st_hang A o l g j = A g j := by unfold st_hang; rw [st_up_n h3, st_up_n h1, st_up_n h2]
theorem st_hang_10 {A : st_A} {o l : Nat} : st_hang A o l 10 o = A 10 o + 1 := by unfold st_hang; rw [st_up_n (by decide), st_up_s]
theorem st_hang_10n {A : st_A} {o l y : Nat} (e : ¬ y = o) : st_hang A o l 10 y = A 10 y := by unfold st_hang; rw [st_up_n (by decide), st_up_j e, st_up_n (by decide)]
theorem st_hang_11 {A : st_A} {o l y : Nat} (e : ¬ y = 8 * o + st_s A o) : st_hang A o l 11 y = A 11 y := by unfold st_hang; rw [st_up_n (by decide), st_up_n (by decide), st_up_j e]
theorem st_join_n {A : st_A} {o x g j : Nat} (h1 : g ≠ 10) (h2 : g ≠ 11) (h3 : g ≠ 13) : ∀ k, st_join A o x k g j = A g j := by
  intro k
  induction k with
  | zero => rfl
  | succ k ih => rw [st_join, st_hang_n h1 h2 h3, ih]
theorem st_join_10 {A : st_A} {o x s : Nat} (e : A 10 o = nI s) : ∀ k, st_join A o x k 10 o = nI (s + k) := by
  intro k
  induction k with
  | zero => exact e
  | succ k ih => rw [st_join, st_hang_10, ih, nI_1]; rfl
theorem st_join_10n {A : st_A} {o x y : Nat} (e : ¬ y = o) : ∀ k, st_join A o x k 10 y = A 10 y := by
  intro k
  induction k with
  | zero => rfl
  | succ k ih => rw [st_join, st_hang_10n e, ih]
theorem st_join_11 {A : st_A} {o x s y : Nat} (e : A 10 o = nI s) (hy : ∀ k, k < 8 → ¬ y = 8 * o + k) : ∀ k, s + k ≤ 8 → st_join A o x k 11 y = A 11 y := by
  intro k
  induction k with
  | zero => intro _; rfl
  | succ k ih =>
    intro hk
    rw [st_join, st_hang_11, ih (by omega)]
    rw [st_s_of (st_join_10 e k) (by omega)]
    exact hy _ (by omega)
def rm_PV (m : Nat) (ma : Nat → Nat) (h : ev_AH) (o : st_O) : ev_Post := ev_pv (fun h' => h' = RH m ma o.1 (nI o.2.2.1) (nI o.2.2.2.1) o.2.2.2.2 h) (fun _ _ => False)
section R7
variable {l : Launch} {G : ev_G} {m : Nat} {ma : Nat → Nat} {c : Int32} {no nl : Nat} {A : st_A} {h : ev_AH}
theorem rp_join_133 (hg : rm_ok m ma) {o x so s : Nat} (ho : o < 20) (e10 : A 10 o = nI so) (hl : sl_ok A x s) (hox : ¬ o = x) (h8 : so + s ≤ 8) {P : ev_Post}
    (hP : P (.inl none) (RH m ma c (nI no) (nI nl) (st_up (st_up (st_up (st_up (st_up (st_join A o x s) 10 x 0) 6 x 7) 9 x (nI o)) 8 o (A 8 o + 1)) 8 x (A 8 x + 1)) h)) :
    ∀ d k : Nat, k + d = s → Ev l G M_R_join 133 [(0, .ref m), (1, .int (nI o)), (2, .int (nI x)), (3, .int (nI k))] [] (RH m ma c (nI no) (nI nl) (st_join A o x k) h) 0 0 (ev_fin G M_R_join P) := by
  have hl' := hl
  obtain ⟨h1, h2, h3, h4⟩ := hl
  have hxo : ¬ x = o := fun y => hox y.symm
  have k1 : (nI o).toNatClampNeg = o := nI_clamp (by omega)
  have k2 : ¬ nI o < 0 := nI_pos (by omega)
  have k3 : (nI x).toNatClampNeg = x := nI_clamp (by omega)
  have k4 : ¬ nI x < 0 := nI_pos (by omega)
  intro d
  induction d with
  | zero =>
    intro k e
    obtain rfl : k = s := by omega
    refine vR_join_133 ?_
    simp only [rh_fs, rh_s0, rh_s1, rh_s12, rh_0, rh_1, rh_2, rh_3, rh_4, rh_5, rh_6, rh_7, rh_8, rh_9, rh_10, rh_11, rh_12, rh_13, rh_14, rh_15, rh_16, rh_17, rh_18, rh_19, rh_20, rh_21, rh_22, rr_2 hg, rs_2 hg, ra_2 hg, rr_3 hg, rs_3 hg, ra_3 hg, rr_4 hg, rs_4 hg, ra_4 hg, rr_5 hg, rs_5 hg, ra_5 hg, rr_6 hg, rs_6 hg, ra_6 hg, rr_7 hg, rs_7 hg, ra_7 hg, rr_8 hg, rs_8 hg, ra_8 hg, rr_9 hg, rs_9 hg, ra_9 hg, rr_10 hg, rs_10 hg, ra_10 hg, rr_11 hg, rs_11 hg, ra_11 hg, rr_13 hg, rs_13 hg, ra_13 hg, rr_14 hg, rs_14 hg, ra_14 hg, rr_15 hg, rs_15 hg, ra_15 hg, rr_16 hg, rs_16 hg, ra_16 hg, rr_17 hg, rs_17 hg, ra_17 hg, rr_18 hg, rs_18 hg, ra_18 hg, rr_19 hg, rs_19 hg, ra_19 hg, rr_20 hg, rs_20 hg, ra_20 hg, rr_21 hg, rs_21 hg, ra_21 hg, rr_22 hg, rs_22 hg, ra_22 hg, Option.some.injEq, Value.int.injEq, Value.ref.injEq, exists_eq_left', exists_eq_left, exists_eq', exists_and_left, and_assoc, true_and, forall_eq, forall_eq', not_false_eq_true, true_implies, and_true, ev_b0, Classical.not_not]
    simp (config := { decide := true }) only [k1, k2, k3, k4, ho, h1, h3, Int32.le_refl, st_join_n, st_join_10n hxo, st_up_j hxo, st_up_j hox, st_up_s, st_up_n, ne_eq, not_false_eq_true, not_true_eq_false, true_and, and_true, and_self, or_self, or_false, false_or, or_true, true_or, false_and, and_false, if_false, if_true, true_implies, false_implies, implies_true, exists_eq_left', exists_eq_left, forall_eq, forall_eq', ev_b0, Classical.not_not, reduceIte]
    exact hP
  | succ d ih =>
    intro k e
    have hk : ¬ nI s ≤ nI k := nI_ge (by omega) (by omega)
    obtain ⟨j, j1, j2, j3, j4, j5, j6, j7, j8⟩ := hl'.at (k := k) (by omega)
    have z11 : st_join A o x k 11 (8 * x + k) = nI j := by
      rw [st_join_11 e10 (fun k' _ => by omega) k (by omega)]
      exact j2
    refine vR_join_133 ?_
    simp only [rh_fs, rh_s0, rh_s1, rh_s12, rh_0, rh_1, rh_2, rh_3, rh_4, rh_5, rh_6, rh_7, rh_8, rh_9, rh_10, rh_11, rh_12, rh_13, rh_14, rh_15, rh_16, rh_17, rh_18, rh_19, rh_20, rh_21, rh_22, rr_2 hg, rs_2 hg, ra_2 hg, rr_3 hg, rs_3 hg, ra_3 hg, rr_4 hg, rs_4 hg, ra_4 hg, rr_5 hg, rs_5 hg, ra_5 hg, rr_6 hg, rs_6 hg, ra_6 hg, rr_7 hg, rs_7 hg, ra_7 hg, rr_8 hg, rs_8 hg, ra_8 hg, rr_9 hg, rs_9 hg, ra_9 hg, rr_10 hg, rs_10 hg, ra_10 hg, rr_11 hg, rs_11 hg, ra_11 hg, rr_13 hg, rs_13 hg, ra_13 hg, rr_14 hg, rs_14 hg, ra_14 hg, rr_15 hg, rs_15 hg, ra_15 hg, rr_16 hg, rs_16 hg, ra_16 hg, rr_17 hg, rs_17 hg, ra_17 hg, rr_18 hg, rs_18 hg, ra_18 hg, rr_19 hg, rs_19 hg, ra_19 hg, rr_20 hg, rs_20 hg, ra_20 hg, rr_21 hg, rs_21 hg, ra_21 hg, rr_22 hg, rs_22 hg, ra_22 hg, Option.some.injEq, Value.int.injEq, Value.ref.injEq, exists_eq_left', exists_eq_left, exists_eq', exists_and_left, and_assoc, true_and, forall_eq, forall_eq', not_false_eq_true, true_implies, and_true, ev_b0, Classical.not_not]
    simp (config := { decide := true }) only [k1, k2, k3, k4, ho, h1, h3, hk, nI_8k, z11, j1, j4, j5, j6, j7, j8, nI_1, st_join_n, st_join_10n hxo, st_up_s, st_up_n, ne_eq, not_false_eq_true, not_true_eq_false, true_and, and_true, and_self, or_self, or_false, false_or, or_true, true_or, false_and, and_false, if_false, if_true, true_implies, false_implies, implies_true, exists_eq_left', exists_eq_left, forall_eq, forall_eq', ev_b0, Classical.not_not, reduceIte]
    refine ⟨_, _, rp_hang hg ho j1 (show so + k < 8 by omega) (st_join_10 e10 k), fun h' e => ?_, fun _ _ q => q.elim⟩
    subst e
    have := ih (k + 1) (by omega)
    rw [st_join, j3] at this
    exact this
theorem rp_join (hg : rm_ok m ma) (hI : st_I no nl A) {p q : Int32} : Mt l G M_R_join [.ref m, .int p, .int q] (RH m ma c (nI no) (nI nl) A h) (rm_PV m ma h (op_join no nl A p q)) := by
  refine vR_join ?_
  simp only [rh_fs, rh_s0, rh_s1, rh_s12, rh_0, rh_1, rh_2, rh_3, rh_4, rh_5, rh_6, rh_7, rh_8, rh_9, rh_10, rh_11, rh_12, rh_13, rh_14, rh_15, rh_16, rh_17, rh_18, rh_19, rh_20, rh_21, rh_22, rr_2 hg, rs_2 hg, ra_2 hg, rr_3 hg, rs_3 hg, ra_3 hg, rr_4 hg, rs_4 hg, ra_4 hg, rr_5 hg, rs_5 hg, ra_5 hg, rr_6 hg, rs_6 hg, ra_6 hg, rr_7 hg, rs_7 hg, ra_7 hg, rr_8 hg, rs_8 hg, ra_8 hg, rr_9 hg, rs_9 hg, ra_9 hg, rr_10 hg, rs_10 hg, ra_10 hg, rr_11 hg, rs_11 hg, ra_11 hg, rr_13 hg, rs_13 hg, ra_13 hg, rr_14 hg, rs_14 hg, ra_14 hg, rr_15 hg, rs_15 hg, ra_15 hg, rr_16 hg, rs_16 hg, ra_16 hg, rr_17 hg, rs_17 hg, ra_17 hg, rr_18 hg, rs_18 hg, ra_18 hg, rr_19 hg, rs_19 hg, ra_19 hg, rr_20 hg, rs_20 hg, ra_20 hg, rr_21 hg, rs_21 hg, ra_21 hg, rr_22 hg, rs_22 hg, ra_22 hg, Option.some.injEq, Value.int.injEq, Value.ref.injEq, exists_eq_left', exists_eq_left, exists_eq', exists_and_left, and_assoc, true_and, forall_eq, forall_eq', not_false_eq_true, true_implies, and_true, ev_b0, Classical.not_not]
  rcases st_ix p (n := no) (by have := hI.1; omega) with ⟨o, ho, rfl, i1, i2, i3, i4, i5⟩ | ⟨i1, i2, i3⟩
  rotate_left
  · simp (config := { decide := true }) only [i2, i3, st_up_s, st_up_n, ne_eq, not_false_eq_true, not_true_eq_false, true_and, and_true, and_self, or_self, or_false, false_or, or_true, true_or, false_and, and_false, if_false, if_true, true_implies, false_implies, implies_true, exists_eq_left', exists_eq_left, forall_eq, forall_eq', ev_b0, Classical.not_not, reduceIte, rm_PV, op_join]
  rcases st_ix q (n := no) (by have := hI.1; omega) with ⟨x, hx, rfl, x1, x2, x3, x4, x5⟩ | ⟨x1, x2, x3⟩
  rotate_left
  · simp (config := { decide := true }) only [i2, x2, x3, st_up_s, st_up_n, ne_eq, not_false_eq_true, not_true_eq_false, true_and, and_true, and_self, or_self, or_false, false_or, or_true, true_or, false_and, and_false, if_false, if_true, true_implies, false_implies, implies_true, exists_eq_left', exists_eq_left, forall_eq, forall_eq', ev_b0, Classical.not_not, reduceIte, rm_PV, op_join]
  obtain ⟨so, hlo⟩ := sl_ok_of hI ho
  obtain ⟨s, hl⟩ := sl_ok_of hI hx
  have es := st_s_of hl.2.2.1 hl.2.1
  have k1 := hlo.1
  have k2 := hl.1
  have ep : (nI o = nI x) ↔ o = x := nI_eq (by omega) (by omega)
  simp (config := { decide := true }) only [i2, i3, i4, i5, x2, x3, x4, x5, k1, k2, ep, st_up_s, st_up_n, ne_eq, not_false_eq_true, not_true_eq_false, true_and, and_true, and_self, or_self, or_false, false_or, or_true, true_or, false_and, and_false, if_false, if_true, true_implies, false_implies, implies_true, exists_eq_left', exists_eq_left, forall_eq, forall_eq', ev_b0, Classical.not_not, reduceIte, op_join, op_join1]
  by_cases c1 : o = x
  · simp (config := { decide := true }) only [c1, st_up_s, st_up_n, ne_eq, not_false_eq_true, not_true_eq_false, true_and, and_true, and_self, or_self, or_false, false_or, or_true, true_or, false_and, and_false, if_false, if_true, true_implies, false_implies, implies_true, exists_eq_left', exists_eq_left, forall_eq, forall_eq', ev_b0, Classical.not_not, reduceIte, rm_PV]
  by_cases c2 : A 6 o = 0
  rotate_left
  · simp (config := { decide := true }) only [c1, c2, st_up_s, st_up_n, ne_eq, not_false_eq_true, not_true_eq_false, true_and, and_true, and_self, or_self, or_false, false_or, or_true, true_or, false_and, and_false, if_false, if_true, true_implies, false_implies, implies_true, exists_eq_left', exists_eq_left, forall_eq, forall_eq', ev_b0, Classical.not_not, reduceIte, rm_PV]
  by_cases c3 : A 6 x = 0
  rotate_left
  · simp (config := { decide := true }) only [c1, c2, c3, st_up_s, st_up_n, ne_eq, not_false_eq_true, not_true_eq_false, true_and, and_true, and_self, or_self, or_false, false_or, or_true, true_or, false_and, and_false, if_false, if_true, true_implies, false_implies, implies_true, exists_eq_left', exists_eq_left, forall_eq, forall_eq', ev_b0, Classical.not_not, reduceIte, rm_PV]
  by_cases c4 : A 2 o = A 2 x
  rotate_left
  · simp (config := { decide := true }) only [c1, c2, c3, c4, st_up_s, st_up_n, ne_eq, not_false_eq_true, not_true_eq_false, true_and, and_true, and_self, or_self, or_false, false_or, or_true, true_or, false_and, and_false, if_false, if_true, true_implies, false_implies, implies_true, exists_eq_left', exists_eq_left, forall_eq, forall_eq', ev_b0, Classical.not_not, reduceIte, rm_PV]
  by_cases c5 : A 7 o = 0
  rotate_left
  · simp (config := { decide := true }) only [c1, c2, c3, c4, c5, st_up_s, st_up_n, ne_eq, not_false_eq_true, not_true_eq_false, true_and, and_true, and_self, or_self, or_false, false_or, or_true, true_or, false_and, and_false, if_false, if_true, true_implies, false_implies, implies_true, exists_eq_left', exists_eq_left, forall_eq, forall_eq', ev_b0, Classical.not_not, reduceIte, rm_PV]
  by_cases c6 : A 7 x = 0
  rotate_left
  · simp (config := { decide := true }) only [c1, c2, c3, c4, c5, c6, st_up_s, st_up_n, ne_eq, not_false_eq_true, not_true_eq_false, true_and, and_true, and_self, or_self, or_false, false_or, or_true, true_or, false_and, and_false, if_false, if_true, true_implies, false_implies, implies_true, exists_eq_left', exists_eq_left, forall_eq, forall_eq', ev_b0, Classical.not_not, reduceIte, rm_PV]
  by_cases c7 : (A 10 o + A 10 x) ≤ 8
  rotate_left
  · simp (config := { decide := true }) only [c1, c2, c3, c4, c5, c6, c7, st_up_s, st_up_n, ne_eq, not_false_eq_true, not_true_eq_false, true_and, and_true, and_self, or_self, or_false, false_or, or_true, true_or, false_and, and_false, if_false, if_true, true_implies, false_implies, implies_true, exists_eq_left', exists_eq_left, forall_eq, forall_eq', ev_b0, Classical.not_not, reduceIte, rm_PV]
  simp (config := { decide := true }) only [c1, c2, c3, c4, c5, c6, c7, es, st_up_s, st_up_n, ne_eq, not_false_eq_true, not_true_eq_false, true_and, and_true, and_self, or_self, or_false, false_or, or_true, true_or, false_and, and_false, if_false, if_true, true_implies, false_implies, implies_true, exists_eq_left', exists_eq_left, forall_eq, forall_eq', ev_b0, Classical.not_not, reduceIte]
  have h8 : so + s ≤ 8 := by
    rw [hlo.2.2.1, hl.2.2.1, nI_add] at c7
    have h1 := hlo.2.1
    have h2 := hl.2.1
    exact (nI_leI (a := so + s) (b := 8) (by omega) (by omega)).mp c7
  exact rp_join_133 hg k1 hlo.2.2.1 hl c1 h8 rfl s 0 (by omega)
theorem rp_backorder (hg : rm_ok m ma) (hI : st_I no nl A) {p : Int32} : Mt l G M_R_backorder [.ref m, .int p] (RH m ma c (nI no) (nI nl) A h) (rm_P m ma h (op_backorder no nl A p)) := by
  have k5 : narrow .boolean (.int 1) = .int 1 := rfl
  refine vR_backorder ?_
  simp only [k5, rh_fs, rh_s0, rh_s1, rh_s12, rh_0, rh_1, rh_2, rh_3, rh_4, rh_5, rh_6, rh_7, rh_8, rh_9, rh_10, rh_11, rh_12, rh_13, rh_14, rh_15, rh_16, rh_17, rh_18, rh_19, rh_20, rh_21, rh_22, rr_2 hg, rs_2 hg, ra_2 hg, rr_3 hg, rs_3 hg, ra_3 hg, rr_4 hg, rs_4 hg, ra_4 hg, rr_5 hg, rs_5 hg, ra_5 hg, rr_6 hg, rs_6 hg, ra_6 hg, rr_7 hg, rs_7 hg, ra_7 hg, rr_8 hg, rs_8 hg, ra_8 hg, rr_9 hg, rs_9 hg, ra_9 hg, rr_10 hg, rs_10 hg, ra_10 hg, rr_11 hg, rs_11 hg, ra_11 hg, rr_13 hg, rs_13 hg, ra_13 hg, rr_14 hg, rs_14 hg, ra_14 hg, rr_15 hg, rs_15 hg, ra_15 hg, rr_16 hg, rs_16 hg, ra_16 hg, rr_17 hg, rs_17 hg, ra_17 hg, rr_18 hg, rs_18 hg, ra_18 hg, rr_19 hg, rs_19 hg, ra_19 hg, rr_20 hg, rs_20 hg, ra_20 hg, rr_21 hg, rs_21 hg, ra_21 hg, rr_22 hg, rs_22 hg, ra_22 hg, Option.some.injEq, Value.int.injEq, Value.ref.injEq, exists_eq_left', exists_eq_left, exists_eq', exists_and_left, and_assoc, true_and, forall_eq, forall_eq', not_false_eq_true, true_implies, and_true, ev_b0, Classical.not_not]
  rcases st_ix p (n := nl) (by have := hI.1; omega) with ⟨j, hj, rfl, i1, i2, i3, i4, i5⟩ | ⟨i1, i2, i3⟩
  rotate_left
  · simp (config := { decide := true }) only [i2, i3, st_up_s, st_up_n, ne_eq, not_false_eq_true, not_true_eq_false, true_and, and_true, and_self, or_self, or_false, false_or, or_true, true_or, false_and, and_false, if_false, if_true, true_implies, false_implies, implies_true, exists_eq_left', exists_eq_left, forall_eq, forall_eq', ev_b0, Classical.not_not, reduceIte, rm_P, op_backorder]
  obtain ⟨i, hi, k2, k1, e13, eh, k3, k4⟩ := st_I_13 hI hj
  simp (config := { decide := true }) only [i2, i3, i4, i5, k1, e13, eh, k3, k4, k2, st_up_s, st_up_n, ne_eq, not_false_eq_true, not_true_eq_false, true_and, and_true, and_self, or_self, or_false, false_or, or_true, true_or, false_and, and_false, if_false, if_true, true_implies, false_implies, implies_true, exists_eq_left', exists_eq_left, forall_eq, forall_eq', ev_b0, Classical.not_not, reduceIte, op_backorder, op_backorder1]
  by_cases c1 : A 6 i = 4
  rotate_left
  · simp (config := { decide := true }) only [c1, st_up_s, st_up_n, ne_eq, not_false_eq_true, not_true_eq_false, true_and, and_true, and_self, or_self, or_false, false_or, or_true, true_or, false_and, and_false, if_false, if_true, true_implies, false_implies, implies_true, exists_eq_left', exists_eq_left, forall_eq, forall_eq', ev_b0, Classical.not_not, reduceIte, rm_P]
  by_cases c2 : A 21 j = 0
  · simp (config := { decide := true }) only [c1, c2, st_up_s, st_up_n, ne_eq, not_false_eq_true, not_true_eq_false, true_and, and_true, and_self, or_self, or_false, false_or, or_true, true_or, false_and, and_false, if_false, if_true, true_implies, false_implies, implies_true, exists_eq_left', exists_eq_left, forall_eq, forall_eq', ev_b0, Classical.not_not, reduceIte, rm_P]
  by_cases c3 : (A 16 j &&& 4) = 0
  · simp (config := { decide := true }) only [c1, c2, c3, st_up_s, st_up_n, ne_eq, not_false_eq_true, not_true_eq_false, true_and, and_true, and_self, or_self, or_false, false_or, or_true, true_or, false_and, and_false, if_false, if_true, true_implies, false_implies, implies_true, exists_eq_left', exists_eq_left, forall_eq, forall_eq', ev_b0, Classical.not_not, reduceIte, rm_P]
  by_cases c4 : A 17 j - A 20 j = 0
  · simp (config := { decide := true }) only [c1, c2, c3, c4, st_up_s, st_up_n, ne_eq, not_false_eq_true, not_true_eq_false, true_and, and_true, and_self, or_self, or_false, false_or, or_true, true_or, false_and, and_false, if_false, if_true, true_implies, false_implies, implies_true, exists_eq_left', exists_eq_left, forall_eq, forall_eq', ev_b0, Classical.not_not, reduceIte, rm_P]
  by_cases c5 : A 22 j = 0
  rotate_left
  · simp (config := { decide := true }) only [c1, c2, c3, c4, c5, st_up_s, st_up_n, ne_eq, not_false_eq_true, not_true_eq_false, true_and, and_true, and_self, or_self, or_false, false_or, or_true, true_or, false_and, and_false, if_false, if_true, true_implies, false_implies, implies_true, exists_eq_left', exists_eq_left, forall_eq, forall_eq', ev_b0, Classical.not_not, reduceIte, rm_P]
  by_cases c6 : nI no = 20
  · simp (config := { decide := true }) only [c1, c2, c3, c4, c5, c6, st_up_s, st_up_n, ne_eq, not_false_eq_true, not_true_eq_false, true_and, and_true, and_self, or_self, or_false, false_or, or_true, true_or, false_and, and_false, if_false, if_true, true_implies, false_implies, implies_true, exists_eq_left', exists_eq_left, forall_eq, forall_eq', ev_b0, Classical.not_not, reduceIte, rm_P]
  by_cases c7 : nI nl = 60
  · simp (config := { decide := true }) only [c1, c2, c3, c4, c5, c6, c7, st_up_s, st_up_n, ne_eq, not_false_eq_true, not_true_eq_false, true_and, and_true, and_self, or_self, or_false, false_or, or_true, true_or, false_and, and_false, if_false, if_true, true_implies, false_implies, implies_true, exists_eq_left', exists_eq_left, forall_eq, forall_eq', ev_b0, Classical.not_not, reduceIte, rm_P]
  have hno : no < 20 := by
    have := hI.1
    have : no ≠ 20 := fun y => c6 (by rw [y]; rfl)
    omega
  have hnl : nl < 60 := by
    have := hI.1
    have : nl ≠ 60 := fun y => c7 (by rw [y]; rfl)
    omega
  have e10 : A 10 no = nI 0 := by
    obtain ⟨-, -, -, -, -, -, z, -⟩ := hI
    exact (z no (Nat.le_refl _)).2
  simp (config := { decide := true }) only [c1, c2, c3, c4, c5, c6, c7, st_up_s, st_up_n, ne_eq, not_false_eq_true, not_true_eq_false, true_and, and_true, and_self, or_self, or_false, false_or, or_true, true_or, false_and, and_false, if_false, if_true, true_implies, false_implies, implies_true, exists_eq_left', exists_eq_left, forall_eq, forall_eq', ev_b0, Classical.not_not, reduceIte]
  refine ⟨_, _, rp_newOrder hg hno, fun q h' e => ?_, fun _ _ q => q.elim⟩
  obtain ⟨rfl, rfl⟩ := e
  simp only [rh_fs, rh_s0, rh_s1, rh_s12, rh_0, rh_1, rh_2, rh_3, rh_4, rh_5, rh_6, rh_7, rh_8, rh_9, rh_10, rh_11, rh_12, rh_13, rh_14, rh_15, rh_16, rh_17, rh_18, rh_19, rh_20, rh_21, rh_22, rr_2 hg, rs_2 hg, ra_2 hg, rr_3 hg, rs_3 hg, ra_3 hg, rr_4 hg, rs_4 hg, ra_4 hg, rr_5 hg, rs_5 hg, ra_5 hg, rr_6 hg, rs_6 hg, ra_6 hg, rr_7 hg, rs_7 hg, ra_7 hg, rr_8 hg, rs_8 hg, ra_8 hg, rr_9 hg, rs_9 hg, ra_9 hg, rr_10 hg, rs_10 hg, ra_10 hg, rr_11 hg, rs_11 hg, ra_11 hg, rr_13 hg, rs_13 hg, ra_13 hg, rr_14 hg, rs_14 hg, ra_14 hg, rr_15 hg, rs_15 hg, ra_15 hg, rr_16 hg, rs_16 hg, ra_16 hg, rr_17 hg, rs_17 hg, ra_17 hg, rr_18 hg, rs_18 hg, ra_18 hg, rr_19 hg, rs_19 hg, ra_19 hg, rr_20 hg, rs_20 hg, ra_20 hg, rr_21 hg, rs_21 hg, ra_21 hg, rr_22 hg, rs_22 hg, ra_22 hg, Option.some.injEq, Value.int.injEq, Value.ref.injEq, exists_eq_left', exists_eq_left, exists_eq', exists_and_left, and_assoc, true_and, forall_eq, forall_eq', not_false_eq_true, true_implies, and_true, ev_b0, Classical.not_not]
  have z : ∀ g y, g ≠ 2 → g ≠ 3 → g ≠ 4 → g ≠ 5 → g ≠ 6 → g ≠ 8 → g ≠ 9 → g ≠ 22 → st_no (st_up A 22 j 1) no (A 2 i) 0 (A 4 i) (A 5 i) g y = A g y := by
    intro g y g2 g3 g4 g5 g6 g8 g9 g22
    unfold st_no
    rw [st_up_n g9, st_up_n g8, st_up_n g6, st_up_n g5, st_up_n g4, st_up_n g3, st_up_n g2, st_up_n g22]
  simp (config := { decide := true }) only [i3, i5, k1, z, c2, st_up_s, st_up_n, ne_eq, not_false_eq_true, not_true_eq_false, true_and, and_true, and_self, or_self, or_false, false_or, or_true, true_or, false_and, and_false, if_false, if_true, true_implies, false_implies, implies_true, exists_eq_left', exists_eq_left, forall_eq, forall_eq', ev_b0, Classical.not_not, reduceIte]
  refine ⟨_, _, rp_newLine hg hnl hno (show 0 < 8 by decide) (by rw [z 10 no (by decide) (by decide) (by decide) (by decide) (by decide) (by decide) (by decide) (by decide)]; exact e10), fun q h' e => ?_, fun _ _ q => q.elim⟩
  obtain ⟨rfl, rfl⟩ := e
  exact ⟨rfl, fun _ => rfl⟩
end R7
