/-! THE REFERENCE: order, ready, told, lineOf, packed, count -/
def st_pack (A : st_A) (j : Nat) : Int64 :=
  ((Int32.toInt64 ((A 14 j ||| ((A 15 j + 1) <<< (4 &&& 31))) ||| (A 16 j <<< (9 &&& 31)))) ||| (((((Int32.toInt64 (A 17 j)) ||| ((Int32.toInt64 (A 18 j)) <<< (Int32.toInt64 10 &&& 63))) ||| ((Int32.toInt64 (A 19 j)) <<< (Int32.toInt64 20 &&& 63))) ||| ((Int32.toInt64 (A 20 j)) <<< (Int32.toInt64 30 &&& 63))) <<< (Int32.toInt64 12 &&& 63))) ||| ((((if A 21 j = 0 then 0 else 1) ||| (if A 22 j = 0 then 0 else 2)) ||| ((Int32.toInt64 (A 13 j)) <<< (Int32.toInt64 2 &&& 63))) <<< (Int32.toInt64 52 &&& 63))
def op_packed (nl : Nat) (A : st_A) (p : Int32) : Int32 × Int64 := if p < 0 ∨ nI nl ≤ p then (1, 0) else (0, st_pack A p.toNatClampNeg)
section R5
variable {l : Launch} {G : ev_G} {m : Nat} {ma : Nat → Nat} {c : Int32} {no nl : Nat} {A : st_A} {h : ev_AH}
theorem rp_packed (hg : rm_ok m ma) (hI : st_I no nl A) {p : Int32} : Mt l G M_R_packed [.ref m, .int p] (RH m ma c (nI no) (nI nl) A h) (ev_pl (fun r h' => h' = RH m ma (op_packed nl A p).1 (nI no) (nI nl) A h ∧ ((op_packed nl A p).1 = 0 → r = (op_packed nl A p).2)) (fun _ _ => False)) := by
  refine vR_packed ?_
  simp only [rh_fs, rh_s0, rh_s1, rh_s12, rh_0, rh_1, rh_2, rh_3, rh_4, rh_5, rh_6, rh_7, rh_8, rh_9, rh_10, rh_11, rh_12, rh_13, rh_14, rh_15, rh_16, rh_17, rh_18, rh_19, rh_20, rh_21, rh_22, rr_2 hg, rs_2 hg, ra_2 hg, rr_3 hg, rs_3 hg, ra_3 hg, rr_4 hg, rs_4 hg, ra_4 hg, rr_5 hg, rs_5 hg, ra_5 hg, rr_6 hg, rs_6 hg, ra_6 hg, rr_7 hg, rs_7 hg, ra_7 hg, rr_8 hg, rs_8 hg, ra_8 hg, rr_9 hg, rs_9 hg, ra_9 hg, rr_10 hg, rs_10 hg, ra_10 hg, rr_11 hg, rs_11 hg, ra_11 hg, rr_13 hg, rs_13 hg, ra_13 hg, rr_14 hg, rs_14 hg, ra_14 hg, rr_15 hg, rs_15 hg, ra_15 hg, rr_16 hg, rs_16 hg, ra_16 hg, rr_17 hg, rs_17 hg, ra_17 hg, rr_18 hg, rs_18 hg, ra_18 hg, rr_19 hg, rs_19 hg, ra_19 hg, rr_20 hg, rs_20 hg, ra_20 hg, rr_21 hg, rs_21 hg, ra_21 hg, rr_22 hg, rs_22 hg, ra_22 hg, Option.some.injEq, Value.int.injEq, Value.ref.injEq, exists_eq_left', exists_eq_left, exists_eq', exists_and_left, and_assoc, true_and, forall_eq, forall_eq', not_false_eq_true, true_implies, and_true, ev_b0, Classical.not_not]
  rcases st_ix p (n := nl) (by have := hI.1; omega) with ⟨j, hj, rfl, i1, i2, i3, i4, i5⟩ | ⟨i1, i2, i3⟩
  rotate_left
  · simp (config := { decide := true }) only [i2, i3, st_up_s, st_up_n, ne_eq, not_false_eq_true, not_true_eq_false, true_and, and_true, and_self, or_self, or_false, false_or, or_true, true_or, false_and, and_false, if_false, if_true, true_implies, false_implies, implies_true, exists_eq_left', exists_eq_left, forall_eq, forall_eq', ev_b0, Classical.not_not, reduceIte, op_packed]
  obtain ⟨i, hi, k2, k1, e13, eh, k3, k4⟩ := st_I_13 hI hj
  simp (config := { decide := true }) only [i2, i3, i4, i5, k1, st_up_s, st_up_n, ne_eq, not_false_eq_true, not_true_eq_false, true_and, and_true, and_self, or_self, or_false, false_or, or_true, true_or, false_and, and_false, if_false, if_true, true_implies, false_implies, implies_true, exists_eq_left', exists_eq_left, forall_eq, forall_eq', ev_b0, Classical.not_not, reduceIte, op_packed, st_pack]
  by_cases c1 : A 21 j = 0
  · by_cases c2 : A 22 j = 0
    · simp (config := { decide := true }) only [c1, c2, st_up_s, st_up_n, ne_eq, not_false_eq_true, not_true_eq_false, true_and, and_true, and_self, or_self, or_false, false_or, or_true, true_or, false_and, and_false, if_false, if_true, true_implies, false_implies, implies_true, exists_eq_left', exists_eq_left, forall_eq, forall_eq', ev_b0, Classical.not_not, reduceIte]
      all_goals first | exact ⟨rfl, rfl⟩ | exact ⟨rfl, fun _ => rfl⟩ | exact ⟨rfl, rfl, rfl⟩
    · simp (config := { decide := true }) only [c1, c2, st_up_s, st_up_n, ne_eq, not_false_eq_true, not_true_eq_false, true_and, and_true, and_self, or_self, or_false, false_or, or_true, true_or, false_and, and_false, if_false, if_true, true_implies, false_implies, implies_true, exists_eq_left', exists_eq_left, forall_eq, forall_eq', ev_b0, Classical.not_not, reduceIte]
      all_goals first | exact ⟨rfl, rfl⟩ | exact ⟨rfl, fun _ => rfl⟩ | exact ⟨rfl, rfl, rfl⟩
  · by_cases c2 : A 22 j = 0
    · simp (config := { decide := true }) only [c1, c2, st_up_s, st_up_n, ne_eq, not_false_eq_true, not_true_eq_false, true_and, and_true, and_self, or_self, or_false, false_or, or_true, true_or, false_and, and_false, if_false, if_true, true_implies, false_implies, implies_true, exists_eq_left', exists_eq_left, forall_eq, forall_eq', ev_b0, Classical.not_not, reduceIte]
      all_goals first | exact ⟨rfl, rfl⟩ | exact ⟨rfl, fun _ => rfl⟩ | exact ⟨rfl, rfl, rfl⟩
    · simp (config := { decide := true }) only [c1, c2, st_up_s, st_up_n, ne_eq, not_false_eq_true, not_true_eq_false, true_and, and_true, and_self, or_self, or_false, false_or, or_true, true_or, false_and, and_false, if_false, if_true, true_implies, false_implies, implies_true, exists_eq_left', exists_eq_left, forall_eq, forall_eq', ev_b0, Classical.not_not, reduceIte]
      all_goals first | exact ⟨rfl, rfl⟩ | exact ⟨rfl, fun _ => rfl⟩ | exact ⟨rfl, rfl, rfl⟩
theorem rp_order_63 (hg : rm_ok m ma) (hno : no ≤ 20) {x n r d : Int32} {P : ev_Post} (hP1 : ∀ o, st_find (fun o => decide (A 2 o = x ∧ A 3 o = n)) no 0 = some o → P (.inl (some (.int (-1 - nI o)))) (RH m ma 0 (nI no) (nI nl) A h))
    (hP2 : st_find (fun o => decide (A 2 o = x ∧ A 3 o = n)) no 0 = none → nI no = 20 → P (.inl (some (.int 0))) (RH m ma 2 (nI no) (nI nl) A h))
    (hP3 : st_find (fun o => decide (A 2 o = x ∧ A 3 o = n)) no 0 = none → ¬ nI no = 20 → P (.inl (some (.int (nI no)))) (RH m ma 0 (nI (no + 1)) (nI nl) (st_no A no x n r d) h)) :
    ∀ dd k : Nat, k + dd = no → st_find (fun o => decide (A 2 o = x ∧ A 3 o = n)) dd k = st_find (fun o => decide (A 2 o = x ∧ A 3 o = n)) no 0 → Ev l G M_R_order 63 [(0, .ref m), (1, .int x), (2, .int n), (3, .int r), (4, .int d), (5, .int (nI k))] [] (RH m ma 0 (nI no) (nI nl) A h) 0 0 (ev_fin G M_R_order P) := by
  intro dd
  induction dd with
  | zero =>
    intro k e e0
    obtain rfl : k = no := by omega
    refine vR_order_63 ?_
    simp only [rh_fs, rh_s0, rh_s1, rh_s12, rh_0, rh_1, rh_2, rh_3, rh_4, rh_5, rh_6, rh_7, rh_8, rh_9, rh_10, rh_11, rh_12, rh_13, rh_14, rh_15, rh_16, rh_17, rh_18, rh_19, rh_20, rh_21, rh_22, rr_2 hg, rs_2 hg, ra_2 hg, rr_3 hg, rs_3 hg, ra_3 hg, rr_4 hg, rs_4 hg, ra_4 hg, rr_5 hg, rs_5 hg, ra_5 hg, rr_6 hg, rs_6 hg, ra_6 hg, rr_7 hg, rs_7 hg, ra_7 hg, rr_8 hg, rs_8 hg, ra_8 hg, rr_9 hg, rs_9 hg, ra_9 hg, rr_10 hg, rs_10 hg, ra_10 hg, rr_11 hg, rs_11 hg, ra_11 hg, rr_13 hg, rs_13 hg, ra_13 hg, rr_14 hg, rs_14 hg, ra_14 hg, rr_15 hg, rs_15 hg, ra_15 hg, rr_16 hg, rs_16 hg, ra_16 hg, rr_17 hg, rs_17 hg, ra_17 hg, rr_18 hg, rs_18 hg, ra_18 hg, rr_19 hg, rs_19 hg, ra_19 hg, rr_20 hg, rs_20 hg, ra_20 hg, rr_21 hg, rs_21 hg, ra_21 hg, rr_22 hg, rs_22 hg, ra_22 hg, Option.some.injEq, Value.int.injEq, Value.ref.injEq, exists_eq_left', exists_eq_left, exists_eq', exists_and_left, and_assoc, true_and, forall_eq, forall_eq', not_false_eq_true, true_implies, and_true, ev_b0, Classical.not_not]
    simp (config := { decide := true }) only [Int32.le_refl, st_up_s, st_up_n, ne_eq, not_false_eq_true, not_true_eq_false, true_and, and_true, and_self, or_self, or_false, false_or, or_true, true_or, false_and, and_false, if_false, if_true, true_implies, false_implies, implies_true, exists_eq_left', exists_eq_left, forall_eq, forall_eq', ev_b0, Classical.not_not, reduceIte]
    by_cases c1 : nI k = 20
    · simp (config := { decide := true }) only [c1, st_up_s, st_up_n, ne_eq, not_false_eq_true, not_true_eq_false, true_and, and_true, and_self, or_self, or_false, false_or, or_true, true_or, false_and, and_false, if_false, if_true, true_implies, false_implies, implies_true, exists_eq_left', exists_eq_left, forall_eq, forall_eq', ev_b0, Classical.not_not, reduceIte]
      rw [← c1]
      exact hP2 e0.symm c1
    · simp (config := { decide := true }) only [c1, st_up_s, st_up_n, ne_eq, not_false_eq_true, not_true_eq_false, true_and, and_true, and_self, or_self, or_false, false_or, or_true, true_or, false_and, and_false, if_false, if_true, true_implies, false_implies, implies_true, exists_eq_left', exists_eq_left, forall_eq, forall_eq', ev_b0, Classical.not_not, reduceIte]
      have : k ≠ 20 := fun y => c1 (by rw [y]; rfl)
      refine ⟨_, _, rp_newOrder hg (by omega), fun q h' e => ?_, fun _ _ q => q.elim⟩
      obtain ⟨rfl, rfl⟩ := e
      exact hP3 e0.symm c1
  | succ dd ih =>
    intro k e e0
    have hk : ¬ nI no ≤ nI k := nI_ge (by omega) (by omega)
    have k1 : (nI k).toNatClampNeg = k := nI_clamp (by omega)
    have k2 : ¬ nI k < 0 := nI_pos (by omega)
    have k3 : k < 20 := by omega
    refine vR_order_63 ?_
    simp only [rh_fs, rh_s0, rh_s1, rh_s12, rh_0, rh_1, rh_2, rh_3, rh_4, rh_5, rh_6, rh_7, rh_8, rh_9, rh_10, rh_11, rh_12, rh_13, rh_14, rh_15, rh_16, rh_17, rh_18, rh_19, rh_20, rh_21, rh_22, rr_2 hg, rs_2 hg, ra_2 hg, rr_3 hg, rs_3 hg, ra_3 hg, rr_4 hg, rs_4 hg, ra_4 hg, rr_5 hg, rs_5 hg, ra_5 hg, rr_6 hg, rs_6 hg, ra_6 hg, rr_7 hg, rs_7 hg, ra_7 hg, rr_8 hg, rs_8 hg, ra_8 hg, rr_9 hg, rs_9 hg, ra_9 hg, rr_10 hg, rs_10 hg, ra_10 hg, rr_11 hg, rs_11 hg, ra_11 hg, rr_13 hg, rs_13 hg, ra_13 hg, rr_14 hg, rs_14 hg, ra_14 hg, rr_15 hg, rs_15 hg, ra_15 hg, rr_16 hg, rs_16 hg, ra_16 hg, rr_17 hg, rs_17 hg, ra_17 hg, rr_18 hg, rs_18 hg, ra_18 hg, rr_19 hg, rs_19 hg, ra_19 hg, rr_20 hg, rs_20 hg, ra_20 hg, rr_21 hg, rs_21 hg, ra_21 hg, rr_22 hg, rs_22 hg, ra_22 hg, Option.some.injEq, Value.int.injEq, Value.ref.injEq, exists_eq_left', exists_eq_left, exists_eq', exists_and_left, and_assoc, true_and, forall_eq, forall_eq', not_false_eq_true, true_implies, and_true, ev_b0, Classical.not_not]
    simp (config := { decide := true }) only [hk, k1, k2, k3, nI_1, st_up_s, st_up_n, ne_eq, not_false_eq_true, not_true_eq_false, true_and, and_true, and_self, or_self, or_false, false_or, or_true, true_or, false_and, and_false, if_false, if_true, true_implies, false_implies, implies_true, exists_eq_left', exists_eq_left, forall_eq, forall_eq', ev_b0, Classical.not_not, reduceIte]
    by_cases c1 : A 2 k = x ∧ A 3 k = n
    · obtain ⟨rfl, rfl⟩ := c1
      simp (config := { decide := true }) only [st_up_s, st_up_n, ne_eq, not_false_eq_true, not_true_eq_false, true_and, and_true, and_self, or_self, or_false, false_or, or_true, true_or, false_and, and_false, if_false, if_true, true_implies, false_implies, implies_true, exists_eq_left', exists_eq_left, forall_eq, forall_eq', ev_b0, Classical.not_not, reduceIte]
      refine hP1 k ?_
      rw [← e0, st_find, if_pos (by simp)]
    · have ec : st_find (fun o => decide (A 2 o = x ∧ A 3 o = n)) (dd + 1) k = st_find (fun o => decide (A 2 o = x ∧ A 3 o = n)) dd (k + 1) := by rw [st_find, if_neg (by simpa using c1)]
      have := ih (k + 1) (by omega) (by rw [← ec]; exact e0)
      by_cases c2 : A 2 k = x
      · have c3 : ¬ A 3 k = n := fun y => c1 ⟨c2, y⟩
        simp (config := { decide := true }) only [c2, c3, st_up_s, st_up_n, ne_eq, not_false_eq_true, not_true_eq_false, true_and, and_true, and_self, or_self, or_false, false_or, or_true, true_or, false_and, and_false, if_false, if_true, true_implies, false_implies, implies_true, exists_eq_left', exists_eq_left, forall_eq, forall_eq', ev_b0, Classical.not_not, reduceIte]
        exact this
      · simp (config := { decide := true }) only [c2, st_up_s, st_up_n, ne_eq, not_false_eq_true, not_true_eq_false, true_and, and_true, and_self, or_self, or_false, false_or, or_true, true_or, false_and, and_false, if_false, if_true, true_implies, false_implies, implies_true, exists_eq_left', exists_eq_left, forall_eq, forall_eq', ev_b0, Classical.not_not, reduceIte]
        exact this
theorem rp_order (hg : rm_ok m ma) (hI : st_I no nl A) {x n r d : Int32} : Mt l G M_R_order [.ref m, .int x, .int n, .int r, .int d] (RH m ma c (nI no) (nI nl) A h) (rm_P m ma h (op_order no nl A x n r d)) := by
  refine vR_order ?_
  simp only [rh_fs, rh_s0, rh_s1, rh_s12, rh_0, rh_1, rh_2, rh_3, rh_4, rh_5, rh_6, rh_7, rh_8, rh_9, rh_10, rh_11, rh_12, rh_13, rh_14, rh_15, rh_16, rh_17, rh_18, rh_19, rh_20, rh_21, rh_22, rr_2 hg, rs_2 hg, ra_2 hg, rr_3 hg, rs_3 hg, ra_3 hg, rr_4 hg, rs_4 hg, ra_4 hg, rr_5 hg, rs_5 hg, ra_5 hg, rr_6 hg, rs_6 hg, ra_6 hg, rr_7 hg, rs_7 hg, ra_7 hg, rr_8 hg, rs_8 hg, ra_8 hg, rr_9 hg, rs_9 hg, ra_9 hg, rr_10 hg, rs_10 hg, ra_10 hg, rr_11 hg, rs_11 hg, ra_11 hg, rr_13 hg, rs_13 hg, ra_13 hg, rr_14 hg, rs_14 hg, ra_14 hg, rr_15 hg, rs_15 hg, ra_15 hg, rr_16 hg, rs_16 hg, ra_16 hg, rr_17 hg, rs_17 hg, ra_17 hg, rr_18 hg, rs_18 hg, ra_18 hg, rr_19 hg, rs_19 hg, ra_19 hg, rr_20 hg, rs_20 hg, ra_20 hg, rr_21 hg, rs_21 hg, ra_21 hg, rr_22 hg, rs_22 hg, ra_22 hg, Option.some.injEq, Value.int.injEq, Value.ref.injEq, exists_eq_left', exists_eq_left, exists_eq', exists_and_left, and_assoc, true_and, forall_eq, forall_eq', not_false_eq_true, true_implies, and_true, ev_b0, Classical.not_not]
  simp (config := { decide := true }) only [st_up_s, st_up_n, ne_eq, not_false_eq_true, not_true_eq_false, true_and, and_true, and_self, or_self, or_false, false_or, or_true, true_or, false_and, and_false, if_false, if_true, true_implies, false_implies, implies_true, exists_eq_left', exists_eq_left, forall_eq, forall_eq', ev_b0, Classical.not_not, reduceIte, op_order]
  by_cases c1 : 0 ≤ x ∧ x ≤ 7
  rotate_left
  · simp (config := { decide := true }) only [c1, st_up_s, st_up_n, ne_eq, not_false_eq_true, not_true_eq_false, true_and, and_true, and_self, or_self, or_false, false_or, or_true, true_or, false_and, and_false, if_false, if_true, true_implies, false_implies, implies_true, exists_eq_left', exists_eq_left, forall_eq, forall_eq', ev_b0, Classical.not_not, reduceIte, rm_P]
  by_cases c2 : 1 ≤ n ∧ n ≤ 99999
  rotate_left
  · simp (config := { decide := true }) only [c1, c2, st_up_s, st_up_n, ne_eq, not_false_eq_true, not_true_eq_false, true_and, and_true, and_self, or_self, or_false, false_or, or_true, true_or, false_and, and_false, if_false, if_true, true_implies, false_implies, implies_true, exists_eq_left', exists_eq_left, forall_eq, forall_eq', ev_b0, Classical.not_not, reduceIte, rm_P]
  by_cases c3 : 1 ≤ r ∧ r ≤ 9
  rotate_left
  · simp (config := { decide := true }) only [c1, c2, c3, st_up_s, st_up_n, ne_eq, not_false_eq_true, not_true_eq_false, true_and, and_true, and_self, or_self, or_false, false_or, or_true, true_or, false_and, and_false, if_false, if_true, true_implies, false_implies, implies_true, exists_eq_left', exists_eq_left, forall_eq, forall_eq', ev_b0, Classical.not_not, reduceIte, rm_P]
  by_cases c4 : 0 ≤ d ∧ d ≤ 10000
  rotate_left
  · simp (config := { decide := true }) only [c1, c2, c3, c4, st_up_s, st_up_n, ne_eq, not_false_eq_true, not_true_eq_false, true_and, and_true, and_self, or_self, or_false, false_or, or_true, true_or, false_and, and_false, if_false, if_true, true_implies, false_implies, implies_true, exists_eq_left', exists_eq_left, forall_eq, forall_eq', ev_b0, Classical.not_not, reduceIte, rm_P]
  simp (config := { decide := true }) only [c1, c2, c3, c4, st_up_s, st_up_n, ne_eq, not_false_eq_true, not_true_eq_false, true_and, and_true, and_self, or_self, or_false, false_or, or_true, true_or, false_and, and_false, if_false, if_true, true_implies, false_implies, implies_true, exists_eq_left', exists_eq_left, forall_eq, forall_eq', ev_b0, Classical.not_not, reduceIte]
  refine rp_order_63 hg hI.1.1 ?_ ?_ ?_ no 0 (by omega) rfl
  · intro o e
    rw [e]
    exact ⟨rfl, fun _ => rfl⟩
  · intro e e1
    rw [e]
    simp only [if_pos e1]
    exact ⟨rfl, fun _ => rfl⟩
  · intro e e1
    rw [e]
    simp only [if_neg e1]
    exact ⟨rfl, fun _ => rfl⟩
theorem rp_ready_46 (hg : rm_ok m ma) (hno : no ≤ 20) {i : Int32} {o : Nat} (ho : o < no) {P : ev_Post} (h1 : ¬ nI (st_rank A no o) = i → Ev l G M_R_ready 15 [(0, .ref m), (1, .int i), (2, .int (nI (o + 1)))] [] (RH m ma 0 (nI no) (nI nl) A h) 0 0 (ev_fin G M_R_ready P)) (h2 : nI (st_rank A no o) = i → P (.inl (some (.int (nI o)))) (RH m ma 0 (nI no) (nI nl) A h)) :
    ∀ d k a : Nat, k + d = no → st_cnt (fun x => st_wait A x && st_bef A x o) d k a = st_rank A no o → Ev l G M_R_ready 46 [(0, .ref m), (1, .int i), (2, .int (nI o)), (3, .int (nI a)), (4, .int (nI k))] [] (RH m ma 0 (nI no) (nI nl) A h) 0 0 (ev_fin G M_R_ready P) := by
  have o1 : (nI o).toNatClampNeg = o := nI_clamp (by omega)
  have o2 : ¬ nI o < 0 := nI_pos (by omega)
  have o3 : o < 20 := by omega
  intro d
  induction d with
  | zero =>
    intro k a e e0
    obtain rfl : k = no := by omega
    rw [st_cnt] at e0
    subst e0
    refine vR_ready_46 ?_
    simp only [rh_fs, rh_s0, rh_s1, rh_s12, rh_0, rh_1, rh_2, rh_3, rh_4, rh_5, rh_6, rh_7, rh_8, rh_9, rh_10, rh_11, rh_12, rh_13, rh_14, rh_15, rh_16, rh_17, rh_18, rh_19, rh_20, rh_21, rh_22, rr_2 hg, rs_2 hg, ra_2 hg, rr_3 hg, rs_3 hg, ra_3 hg, rr_4 hg, rs_4 hg, ra_4 hg, rr_5 hg, rs_5 hg, ra_5 hg, rr_6 hg, rs_6 hg, ra_6 hg, rr_7 hg, rs_7 hg, ra_7 hg, rr_8 hg, rs_8 hg, ra_8 hg, rr_9 hg, rs_9 hg, ra_9 hg, rr_10 hg, rs_10 hg, ra_10 hg, rr_11 hg, rs_11 hg, ra_11 hg, rr_13 hg, rs_13 hg, ra_13 hg, rr_14 hg, rs_14 hg, ra_14 hg, rr_15 hg, rs_15 hg, ra_15 hg, rr_16 hg, rs_16 hg, ra_16 hg, rr_17 hg, rs_17 hg, ra_17 hg, rr_18 hg, rs_18 hg, ra_18 hg, rr_19 hg, rs_19 hg, ra_19 hg, rr_20 hg, rs_20 hg, ra_20 hg, rr_21 hg, rs_21 hg, ra_21 hg, rr_22 hg, rs_22 hg, ra_22 hg, Option.some.injEq, Value.int.injEq, Value.ref.injEq, exists_eq_left', exists_eq_left, exists_eq', exists_and_left, and_assoc, true_and, forall_eq, forall_eq', not_false_eq_true, true_implies, and_true, ev_b0, Classical.not_not]
    simp (config := { decide := true }) only [Int32.le_refl, nI_1, st_up_s, st_up_n, ne_eq, not_false_eq_true, not_true_eq_false, true_and, and_true, and_self, or_self, or_false, false_or, or_true, true_or, false_and, and_false, if_false, if_true, true_implies, false_implies, implies_true, exists_eq_left', exists_eq_left, forall_eq, forall_eq', ev_b0, Classical.not_not, reduceIte]
    exact ⟨h1, h2⟩
  | succ d ih =>
    intro k a e e0
    have hk : ¬ nI no ≤ nI k := nI_ge (by omega) (by omega)
    have k1 : (nI k).toNatClampNeg = k := nI_clamp (by omega)
    have k2 : ¬ nI k < 0 := nI_pos (by omega)
    have k3 : k < 20 := by omega
    refine vR_ready_46 ?_
    simp only [rh_fs, rh_s0, rh_s1, rh_s12, rh_0, rh_1, rh_2, rh_3, rh_4, rh_5, rh_6, rh_7, rh_8, rh_9, rh_10, rh_11, rh_12, rh_13, rh_14, rh_15, rh_16, rh_17, rh_18, rh_19, rh_20, rh_21, rh_22, rr_2 hg, rs_2 hg, ra_2 hg, rr_3 hg, rs_3 hg, ra_3 hg, rr_4 hg, rs_4 hg, ra_4 hg, rr_5 hg, rs_5 hg, ra_5 hg, rr_6 hg, rs_6 hg, ra_6 hg, rr_7 hg, rs_7 hg, ra_7 hg, rr_8 hg, rs_8 hg, ra_8 hg, rr_9 hg, rs_9 hg, ra_9 hg, rr_10 hg, rs_10 hg, ra_10 hg, rr_11 hg, rs_11 hg, ra_11 hg, rr_13 hg, rs_13 hg, ra_13 hg, rr_14 hg, rs_14 hg, ra_14 hg, rr_15 hg, rs_15 hg, ra_15 hg, rr_16 hg, rs_16 hg, ra_16 hg, rr_17 hg, rs_17 hg, ra_17 hg, rr_18 hg, rs_18 hg, ra_18 hg, rr_19 hg, rs_19 hg, ra_19 hg, rr_20 hg, rs_20 hg, ra_20 hg, rr_21 hg, rs_21 hg, ra_21 hg, rr_22 hg, rs_22 hg, ra_22 hg, Option.some.injEq, Value.int.injEq, Value.ref.injEq, exists_eq_left', exists_eq_left, exists_eq', exists_and_left, and_assoc, true_and, forall_eq, forall_eq', not_false_eq_true, true_implies, and_true, ev_b0, Classical.not_not]
    simp (config := { decide := true }) only [hk, k1, k2, k3, o1, o2, o3, nI_1, Int32.add_zero, st_up_s, st_up_n, ne_eq, not_false_eq_true, not_true_eq_false, true_and, and_true, and_self, or_self, or_false, false_or, or_true, true_or, false_and, and_false, if_false, if_true, true_implies, false_implies, implies_true, exists_eq_left', exists_eq_left, forall_eq, forall_eq', ev_b0, Classical.not_not, reduceIte]
    rw [st_cnt] at e0
    by_cases c1 : A 6 k ≤ 1 ∧ A 7 k = 0
    · by_cases c2 : ev_lex (A 4 k) (A 4 o) (A 5 k) (A 5 o) (nI k) (nI o)
      · have ef : (st_wait A k && st_bef A k o) = true := by unfold st_wait st_bef; simp only [c1, c2, decide_true, and_self, Bool.and_self]
        rw [if_pos ef] at e0
        simp (config := { decide := true }) only [c1, c2, st_up_s, st_up_n, ne_eq, not_false_eq_true, not_true_eq_false, true_and, and_true, and_self, or_self, or_false, false_or, or_true, true_or, false_and, and_false, if_false, if_true, true_implies, false_implies, implies_true, exists_eq_left', exists_eq_left, forall_eq, forall_eq', ev_b0, Classical.not_not, reduceIte]
        exact ih (k + 1) (a + 1) (by omega) e0
      · have ef : ¬ (st_wait A k && st_bef A k o) = true := by unfold st_wait st_bef; simp only [c2, decide_false, Bool.and_false]; decide
        rw [if_neg ef] at e0
        simp (config := { decide := true }) only [c1, c2, st_up_s, st_up_n, ne_eq, not_false_eq_true, not_true_eq_false, true_and, and_true, and_self, or_self, or_false, false_or, or_true, true_or, false_and, and_false, if_false, if_true, true_implies, false_implies, implies_true, exists_eq_left', exists_eq_left, forall_eq, forall_eq', ev_b0, Classical.not_not, reduceIte]
        exact ih (k + 1) a (by omega) e0
    · have ef : ¬ (st_wait A k && st_bef A k o) = true := by unfold st_wait st_bef; simp only [c1, decide_false, Bool.false_and]; decide
      rw [if_neg ef] at e0
      simp (config := { decide := true }) only [c1, st_up_s, st_up_n, ne_eq, not_false_eq_true, not_true_eq_false, true_and, and_true, and_self, or_self, or_false, false_or, or_true, true_or, false_and, and_false, if_false, if_true, true_implies, false_implies, implies_true, exists_eq_left', exists_eq_left, forall_eq, forall_eq', ev_b0, Classical.not_not, reduceIte]
      exact ih (k + 1) a (by omega) e0
theorem rp_ready_15 (hg : rm_ok m ma) (hno : no ≤ 20) {i : Int32} {P : ev_Post} (h1 : ∀ o, st_find (fun o => st_wait A o && decide (nI (st_rank A no o) = i)) no 0 = some o → P (.inl (some (.int (nI o)))) (RH m ma 0 (nI no) (nI nl) A h)) (h2 : st_find (fun o => st_wait A o && decide (nI (st_rank A no o) = i)) no 0 = none → P (.inl (some (.int (-1)))) (RH m ma 0 (nI no) (nI nl) A h)) :
    ∀ d k : Nat, k + d = no → st_find (fun o => st_wait A o && decide (nI (st_rank A no o) = i)) d k = st_find (fun o => st_wait A o && decide (nI (st_rank A no o) = i)) no 0 → Ev l G M_R_ready 15 [(0, .ref m), (1, .int i), (2, .int (nI k))] [] (RH m ma 0 (nI no) (nI nl) A h) 0 0 (ev_fin G M_R_ready P) := by
  intro d
  induction d with
  | zero =>
    intro k e e0
    obtain rfl : k = no := by omega
    refine vR_ready_15 ?_
    simp only [rh_fs, rh_s0, rh_s1, rh_s12, rh_0, rh_1, rh_2, rh_3, rh_4, rh_5, rh_6, rh_7, rh_8, rh_9, rh_10, rh_11, rh_12, rh_13, rh_14, rh_15, rh_16, rh_17, rh_18, rh_19, rh_20, rh_21, rh_22, rr_2 hg, rs_2 hg, ra_2 hg, rr_3 hg, rs_3 hg, ra_3 hg, rr_4 hg, rs_4 hg, ra_4 hg, rr_5 hg, rs_5 hg, ra_5 hg, rr_6 hg, rs_6 hg, ra_6 hg, rr_7 hg, rs_7 hg, ra_7 hg, rr_8 hg, rs_8 hg, ra_8 hg, rr_9 hg, rs_9 hg, ra_9 hg, rr_10 hg, rs_10 hg, ra_10 hg, rr_11 hg, rs_11 hg, ra_11 hg, rr_13 hg, rs_13 hg, ra_13 hg, rr_14 hg, rs_14 hg, ra_14 hg, rr_15 hg, rs_15 hg, ra_15 hg, rr_16 hg, rs_16 hg, ra_16 hg, rr_17 hg, rs_17 hg, ra_17 hg, rr_18 hg, rs_18 hg, ra_18 hg, rr_19 hg, rs_19 hg, ra_19 hg, rr_20 hg, rs_20 hg, ra_20 hg, rr_21 hg, rs_21 hg, ra_21 hg, rr_22 hg, rs_22 hg, ra_22 hg, Option.some.injEq, Value.int.injEq, Value.ref.injEq, exists_eq_left', exists_eq_left, exists_eq', exists_and_left, and_assoc, true_and, forall_eq, forall_eq', not_false_eq_true, true_implies, and_true, ev_b0, Classical.not_not]
    simp (config := { decide := true }) only [Int32.le_refl, st_up_s, st_up_n, ne_eq, not_false_eq_true, not_true_eq_false, true_and, and_true, and_self, or_self, or_false, false_or, or_true, true_or, false_and, and_false, if_false, if_true, true_implies, false_implies, implies_true, exists_eq_left', exists_eq_left, forall_eq, forall_eq', ev_b0, Classical.not_not, reduceIte]
    exact h2 e0.symm
  | succ d ih =>
    intro k e e0
    have hk : ¬ nI no ≤ nI k := nI_ge (by omega) (by omega)
    have k1 : (nI k).toNatClampNeg = k := nI_clamp (by omega)
    have k2 : ¬ nI k < 0 := nI_pos (by omega)
    have k3 : k < 20 := by omega
    rw [st_find] at e0
    refine vR_ready_15 ?_
    simp only [rh_fs, rh_s0, rh_s1, rh_s12, rh_0, rh_1, rh_2, rh_3, rh_4, rh_5, rh_6, rh_7, rh_8, rh_9, rh_10, rh_11, rh_12, rh_13, rh_14, rh_15, rh_16, rh_17, rh_18, rh_19, rh_20, rh_21, rh_22, rr_2 hg, rs_2 hg, ra_2 hg, rr_3 hg, rs_3 hg, ra_3 hg, rr_4 hg, rs_4 hg, ra_4 hg, rr_5 hg, rs_5 hg, ra_5 hg, rr_6 hg, rs_6 hg, ra_6 hg, rr_7 hg, rs_7 hg, ra_7 hg, rr_8 hg, rs_8 hg, ra_8 hg, rr_9 hg, rs_9 hg, ra_9 hg, rr_10 hg, rs_10 hg, ra_10 hg, rr_11 hg, rs_11 hg, ra_11 hg, rr_13 hg, rs_13 hg, ra_13 hg, rr_14 hg, rs_14 hg, ra_14 hg, rr_15 hg, rs_15 hg, ra_15 hg, rr_16 hg, rs_16 hg, ra_16 hg, rr_17 hg, rs_17 hg, ra_17 hg, rr_18 hg, rs_18 hg, ra_18 hg, rr_19 hg, rs_19 hg, ra_19 hg, rr_20 hg, rs_20 hg, ra_20 hg, rr_21 hg, rs_21 hg, ra_21 hg, rr_22 hg, rs_22 hg, ra_22 hg, Option.some.injEq, Value.int.injEq, Value.ref.injEq, exists_eq_left', exists_eq_left, exists_eq', exists_and_left, and_assoc, true_and, forall_eq, forall_eq', not_false_eq_true, true_implies, and_true, ev_b0, Classical.not_not]
    simp (config := { decide := true }) only [hk, k1, k2, k3, nI_1, st_up_s, st_up_n, ne_eq, not_false_eq_true, not_true_eq_false, true_and, and_true, and_self, or_self, or_false, false_or, or_true, true_or, false_and, and_false, if_false, if_true, true_implies, false_implies, implies_true, exists_eq_left', exists_eq_left, forall_eq, forall_eq', ev_b0, Classical.not_not, reduceIte]
    by_cases c1 : A 6 k ≤ 1 ∧ A 7 k = 0
    · simp (config := { decide := true }) only [c1, st_up_s, st_up_n, ne_eq, not_false_eq_true, not_true_eq_false, true_and, and_true, and_self, or_self, or_false, false_or, or_true, true_or, false_and, and_false, if_false, if_true, true_implies, false_implies, implies_true, exists_eq_left', exists_eq_left, forall_eq, forall_eq', ev_b0, Classical.not_not, reduceIte]
      refine rp_ready_46 hg hno (by omega) (fun z => ?_) (fun z => ?_) no 0 0 (by omega) rfl
      · rw [if_neg (by simp only [z, decide_false, Bool.and_false]; decide)] at e0
        exact ih (k + 1) (by omega) e0
      · rw [if_pos (by unfold st_wait; simp only [z, c1, decide_true, and_self, Bool.and_self])] at e0
        exact h1 k e0.symm
    · simp (config := { decide := true }) only [c1, st_up_s, st_up_n, ne_eq, not_false_eq_true, not_true_eq_false, true_and, and_true, and_self, or_self, or_false, false_or, or_true, true_or, false_and, and_false, if_false, if_true, true_implies, false_implies, implies_true, exists_eq_left', exists_eq_left, forall_eq, forall_eq', ev_b0, Classical.not_not, reduceIte]
      rw [if_neg (by unfold st_wait; simp only [c1, decide_false, Bool.false_and]; decide)] at e0
      exact ih (k + 1) (by omega) e0
theorem rp_ready (hg : rm_ok m ma) (hI : st_I no nl A) {i : Int32} : Mt l G M_R_ready [.ref m, .int i] (RH m ma c (nI no) (nI nl) A h) (rm_P m ma h (op_ready no nl A i)) := by
  refine vR_ready ?_
  simp only [rh_fs, rh_s0, rh_s1, rh_s12, rh_0, rh_1, rh_2, rh_3, rh_4, rh_5, rh_6, rh_7, rh_8, rh_9, rh_10, rh_11, rh_12, rh_13, rh_14, rh_15, rh_16, rh_17, rh_18, rh_19, rh_20, rh_21, rh_22, rr_2 hg, rs_2 hg, ra_2 hg, rr_3 hg, rs_3 hg, ra_3 hg, rr_4 hg, rs_4 hg, ra_4 hg, rr_5 hg, rs_5 hg, ra_5 hg, rr_6 hg, rs_6 hg, ra_6 hg, rr_7 hg, rs_7 hg, ra_7 hg, rr_8 hg, rs_8 hg, ra_8 hg, rr_9 hg, rs_9 hg, ra_9 hg, rr_10 hg, rs_10 hg, ra_10 hg, rr_11 hg, rs_11 hg, ra_11 hg, rr_13 hg, rs_13 hg, ra_13 hg, rr_14 hg, rs_14 hg, ra_14 hg, rr_15 hg, rs_15 hg, ra_15 hg, rr_16 hg, rs_16 hg, ra_16 hg, rr_17 hg, rs_17 hg, ra_17 hg, rr_18 hg, rs_18 hg, ra_18 hg, rr_19 hg, rs_19 hg, ra_19 hg, rr_20 hg, rs_20 hg, ra_20 hg, rr_21 hg, rs_21 hg, ra_21 hg, rr_22 hg, rs_22 hg, ra_22 hg, Option.some.injEq, Value.int.injEq, Value.ref.injEq, exists_eq_left', exists_eq_left, exists_eq', exists_and_left, and_assoc, true_and, forall_eq, forall_eq', not_false_eq_true, true_implies, and_true, ev_b0, Classical.not_not]
  by_cases c1 : i < 0
  · have c2 : ¬ 0 ≤ i := Int32.not_le.mpr c1
    simp (config := { decide := true }) only [c2, st_up_s, st_up_n, ne_eq, not_false_eq_true, not_true_eq_false, true_and, and_true, and_self, or_self, or_false, false_or, or_true, true_or, false_and, and_false, if_false, if_true, true_implies, false_implies, implies_true, exists_eq_left', exists_eq_left, forall_eq, forall_eq', ev_b0, Classical.not_not, reduceIte]
    refine vR_ready_15 ?_
    simp only [rh_fs, rh_s0, rh_s1, rh_s12, rh_0, rh_1, rh_2, rh_3, rh_4, rh_5, rh_6, rh_7, rh_8, rh_9, rh_10, rh_11, rh_12, rh_13, rh_14, rh_15, rh_16, rh_17, rh_18, rh_19, rh_20, rh_21, rh_22, rr_2 hg, rs_2 hg, ra_2 hg, rr_3 hg, rs_3 hg, ra_3 hg, rr_4 hg, rs_4 hg, ra_4 hg, rr_5 hg, rs_5 hg, ra_5 hg, rr_6 hg, rs_6 hg, ra_6 hg, rr_7 hg, rs_7 hg, ra_7 hg, rr_8 hg, rs_8 hg, ra_8 hg, rr_9 hg, rs_9 hg, ra_9 hg, rr_10 hg, rs_10 hg, ra_10 hg, rr_11 hg, rs_11 hg, ra_11 hg, rr_13 hg, rs_13 hg, ra_13 hg, rr_14 hg, rs_14 hg, ra_14 hg, rr_15 hg, rs_15 hg, ra_15 hg, rr_16 hg, rs_16 hg, ra_16 hg, rr_17 hg, rs_17 hg, ra_17 hg, rr_18 hg, rs_18 hg, ra_18 hg, rr_19 hg, rs_19 hg, ra_19 hg, rr_20 hg, rs_20 hg, ra_20 hg, rr_21 hg, rs_21 hg, ra_21 hg, rr_22 hg, rs_22 hg, ra_22 hg, Option.some.injEq, Value.int.injEq, Value.ref.injEq, exists_eq_left', exists_eq_left, exists_eq', exists_and_left, and_assoc, true_and, forall_eq, forall_eq', not_false_eq_true, true_implies, and_true, ev_b0, Classical.not_not]
    simp (config := { decide := true }) only [c1, st_up_s, st_up_n, ne_eq, not_false_eq_true, not_true_eq_false, true_and, and_true, and_self, or_self, or_false, false_or, or_true, true_or, false_and, and_false, if_false, if_true, true_implies, false_implies, implies_true, exists_eq_left', exists_eq_left, forall_eq, forall_eq', ev_b0, Classical.not_not, reduceIte, op_ready, rm_P]
  · have c2 : 0 ≤ i := Int32.not_lt.mp c1
    simp (config := { decide := true }) only [c1, c2, st_up_s, st_up_n, ne_eq, not_false_eq_true, not_true_eq_false, true_and, and_true, and_self, or_self, or_false, false_or, or_true, true_or, false_and, and_false, if_false, if_true, true_implies, false_implies, implies_true, exists_eq_left', exists_eq_left, forall_eq, forall_eq', ev_b0, Classical.not_not, reduceIte, op_ready]
    refine rp_ready_15 hg hI.1.1 (fun o e => ?_) (fun e => ?_) no 0 (by omega) rfl
    · rw [e]; exact ⟨rfl, fun _ => rfl⟩
    · rw [e]; exact ⟨rfl, fun _ => rfl⟩
end R5
