/-! THE REFERENCE: told, lineOf, count, join, backorder -/
theorem st_up_j {A : st_A} {f i j : Nat} {v : Int32} (e : ¬ j = i) : st_up A f i v f j = A f j := by rw [st_up_f, if_neg e]
section R6
variable {l : Launch} {G : ev_G} {m : Nat} {ma : Nat → Nat} {c : Int32} {no nl : Nat} {A : st_A} {h : ev_AH}
theorem rp_told_155 (hg : rm_ok m ma) {i s : Nat} (hl : sl_ok A i s) {w : Int32} {P : ev_Post} (hP : P (.inl (some (.int (if A 6 i = 4 ∨ A 6 i = 5 then st_sum (fun k => st_short A (st_l A i k)) s 0 0 else 0)))) (RH m ma c (nI no) (nI nl) A h)) (c45 : A 6 i = 4 ∨ A 6 i = 5) :
    ∀ (d k : Nat) (a : Int32), k + d = s → st_sum (fun k => st_short A (st_l A i k)) d k a = st_sum (fun k => st_short A (st_l A i k)) s 0 0 → Ev l G M_R_told 155 [(0, .ref m), (1, .int (nI i)), (2, .int w), (3, .int a), (4, .int (nI k))] [] (RH m ma c (nI no) (nI nl) A h) 0 0 (ev_fin G M_R_told P) := by
  have hl' := hl
  obtain ⟨h1, h2, h3, h4⟩ := hl
  have k1 : (nI i).toNatClampNeg = i := nI_clamp (by omega)
  have k2 : ¬ nI i < 0 := nI_pos (by omega)
  rw [if_pos c45] at hP
  intro d
  induction d with
  | zero =>
    intro k a e e0
    obtain rfl : k = s := by omega
    rw [st_sum] at e0
    subst e0
    refine vR_told_155 ?_
    simp only [rh_fs, rh_s0, rh_s1, rh_s12, rh_0, rh_1, rh_2, rh_3, rh_4, rh_5, rh_6, rh_7, rh_8, rh_9, rh_10, rh_11, rh_12, rh_13, rh_14, rh_15, rh_16, rh_17, rh_18, rh_19, rh_20, rh_21, rh_22, rr_2 hg, rs_2 hg, ra_2 hg, rr_3 hg, rs_3 hg, ra_3 hg, rr_4 hg, rs_4 hg, ra_4 hg, rr_5 hg, rs_5 hg, ra_5 hg, rr_6 hg, rs_6 hg, ra_6 hg, rr_7 hg, rs_7 hg, ra_7 hg, rr_8 hg, rs_8 hg, ra_8 hg, rr_9 hg, rs_9 hg, ra_9 hg, rr_10 hg, rs_10 hg, ra_10 hg, rr_11 hg, rs_11 hg, ra_11 hg, rr_13 hg, rs_13 hg, ra_13 hg, rr_14 hg, rs_14 hg, ra_14 hg, rr_15 hg, rs_15 hg, ra_15 hg, rr_16 hg, rs_16 hg, ra_16 hg, rr_17 hg, rs_17 hg, ra_17 hg, rr_18 hg, rs_18 hg, ra_18 hg, rr_19 hg, rs_19 hg, ra_19 hg, rr_20 hg, rs_20 hg, ra_20 hg, rr_21 hg, rs_21 hg, ra_21 hg, rr_22 hg, rs_22 hg, ra_22 hg, Option.some.injEq, Value.int.injEq, Value.ref.injEq, exists_eq_left', exists_eq_left, exists_eq', exists_and_left, and_assoc, true_and, forall_eq, forall_eq', not_false_eq_true, true_implies, and_true, ev_b0, Classical.not_not]
    simp (config := { decide := true }) only [k1, k2, h1, h3, Int32.le_refl, st_up_s, st_up_n, ne_eq, not_false_eq_true, not_true_eq_false, true_and, and_true, and_self, or_self, or_false, false_or, or_true, true_or, false_and, and_false, if_false, if_true, true_implies, false_implies, implies_true, exists_eq_left', exists_eq_left, forall_eq, forall_eq', ev_b0, Classical.not_not, reduceIte]
    exact hP
  | succ d ih =>
    intro k a e e0
    have hk : ¬ nI s ≤ nI k := nI_ge (by omega) (by omega)
    obtain ⟨j, j1, j2, j3, j4, j5, j6, j7, j8⟩ := hl'.at (k := k) (by omega)
    rw [st_sum] at e0
    have := ih (k + 1) _ (by omega) e0
    rw [j3] at this
    refine vR_told_155 ?_
    simp only [rh_fs, rh_s0, rh_s1, rh_s12, rh_0, rh_1, rh_2, rh_3, rh_4, rh_5, rh_6, rh_7, rh_8, rh_9, rh_10, rh_11, rh_12, rh_13, rh_14, rh_15, rh_16, rh_17, rh_18, rh_19, rh_20, rh_21, rh_22, rr_2 hg, rs_2 hg, ra_2 hg, rr_3 hg, rs_3 hg, ra_3 hg, rr_4 hg, rs_4 hg, ra_4 hg, rr_5 hg, rs_5 hg, ra_5 hg, rr_6 hg, rs_6 hg, ra_6 hg, rr_7 hg, rs_7 hg, ra_7 hg, rr_8 hg, rs_8 hg, ra_8 hg, rr_9 hg, rs_9 hg, ra_9 hg, rr_10 hg, rs_10 hg, ra_10 hg, rr_11 hg, rs_11 hg, ra_11 hg, rr_13 hg, rs_13 hg, ra_13 hg, rr_14 hg, rs_14 hg, ra_14 hg, rr_15 hg, rs_15 hg, ra_15 hg, rr_16 hg, rs_16 hg, ra_16 hg, rr_17 hg, rs_17 hg, ra_17 hg, rr_18 hg, rs_18 hg, ra_18 hg, rr_19 hg, rs_19 hg, ra_19 hg, rr_20 hg, rs_20 hg, ra_20 hg, rr_21 hg, rs_21 hg, ra_21 hg, rr_22 hg, rs_22 hg, ra_22 hg, Option.some.injEq, Value.int.injEq, Value.ref.injEq, exists_eq_left', exists_eq_left, exists_eq', exists_and_left, and_assoc, true_and, forall_eq, forall_eq', not_false_eq_true, true_implies, and_true, ev_b0, Classical.not_not]
    rcases c45 with c4 | c5
    · simp (config := { decide := true }) only [k1, k2, h1, h3, hk, c4, nI_8k, j1, j2, j4, j5, j6, j7, j8, nI_1, st_up_s, st_up_n, ne_eq, not_false_eq_true, not_true_eq_false, true_and, and_true, and_self, or_self, or_false, false_or, or_true, true_or, false_and, and_false, if_false, if_true, true_implies, false_implies, implies_true, exists_eq_left', exists_eq_left, forall_eq, forall_eq', ev_b0, Classical.not_not, reduceIte]
      exact this
    · simp (config := { decide := true }) only [k1, k2, h1, h3, hk, c5, nI_8k, j1, j2, j4, j5, j6, j7, j8, nI_1, st_up_s, st_up_n, ne_eq, not_false_eq_true, not_true_eq_false, true_and, and_true, and_self, or_self, or_false, false_or, or_true, true_or, false_and, and_false, if_false, if_true, true_implies, false_implies, implies_true, exists_eq_left', exists_eq_left, forall_eq, forall_eq', ev_b0, Classical.not_not, reduceIte]
      exact this
theorem rp_told (hg : rm_ok m ma) (hI : st_I no nl A) {p w : Int32} : Mt l G M_R_told [.ref m, .int p, .int w] (RH m ma c (nI no) (nI nl) A h) (rm_P m ma h (op_told no nl A p w)) := by
  refine vR_told ?_
  simp only [rh_fs, rh_s0, rh_s1, rh_s12, rh_0, rh_1, rh_2, rh_3, rh_4, rh_5, rh_6, rh_7, rh_8, rh_9, rh_10, rh_11, rh_12, rh_13, rh_14, rh_15, rh_16, rh_17, rh_18, rh_19, rh_20, rh_21, rh_22, rr_2 hg, rs_2 hg, ra_2 hg, rr_3 hg, rs_3 hg, ra_3 hg, rr_4 hg, rs_4 hg, ra_4 hg, rr_5 hg, rs_5 hg, ra_5 hg, rr_6 hg, rs_6 hg, ra_6 hg, rr_7 hg, rs_7 hg, ra_7 hg, rr_8 hg, rs_8 hg, ra_8 hg, rr_9 hg, rs_9 hg, ra_9 hg, rr_10 hg, rs_10 hg, ra_10 hg, rr_11 hg, rs_11 hg, ra_11 hg, rr_13 hg, rs_13 hg, ra_13 hg, rr_14 hg, rs_14 hg, ra_14 hg, rr_15 hg, rs_15 hg, ra_15 hg, rr_16 hg, rs_16 hg, ra_16 hg, rr_17 hg, rs_17 hg, ra_17 hg, rr_18 hg, rs_18 hg, ra_18 hg, rr_19 hg, rs_19 hg, ra_19 hg, rr_20 hg, rs_20 hg, ra_20 hg, rr_21 hg, rs_21 hg, ra_21 hg, rr_22 hg, rs_22 hg, ra_22 hg, Option.some.injEq, Value.int.injEq, Value.ref.injEq, exists_eq_left', exists_eq_left, exists_eq', exists_and_left, and_assoc, true_and, forall_eq, forall_eq', not_false_eq_true, true_implies, and_true, ev_b0, Classical.not_not]
  rcases st_ix p (n := no) (by have := hI.1; omega) with ⟨i, hi, rfl, i1, i2, i3, i4, i5⟩ | ⟨i1, i2, i3⟩
  rotate_left
  · simp (config := { decide := true }) only [i2, i3, st_up_s, st_up_n, ne_eq, not_false_eq_true, not_true_eq_false, true_and, and_true, and_self, or_self, or_false, false_or, or_true, true_or, false_and, and_false, if_false, if_true, true_implies, false_implies, implies_true, exists_eq_left', exists_eq_left, forall_eq, forall_eq', ev_b0, Classical.not_not, reduceIte, rm_P, op_told]
  obtain ⟨s, hl⟩ := sl_ok_of hI hi
  have es := st_s_of hl.2.2.1 hl.2.1
  have k1 := hl.1
  simp (config := { decide := true }) only [i2, i3, i4, i5, k1, st_up_s, st_up_n, ne_eq, not_false_eq_true, not_true_eq_false, true_and, and_true, and_self, or_self, or_false, false_or, or_true, true_or, false_and, and_false, if_false, if_true, true_implies, false_implies, implies_true, exists_eq_left', exists_eq_left, forall_eq, forall_eq', ev_b0, Classical.not_not, reduceIte, op_told, op_told1]
  by_cases c1 : 0 ≤ w ∧ w ≤ 9
  rotate_left
  · simp (config := { decide := true }) only [c1, st_up_s, st_up_n, ne_eq, not_false_eq_true, not_true_eq_false, true_and, and_true, and_self, or_self, or_false, false_or, or_true, true_or, false_and, and_false, if_false, if_true, true_implies, false_implies, implies_true, exists_eq_left', exists_eq_left, forall_eq, forall_eq', ev_b0, Classical.not_not, reduceIte, rm_P]
  simp (config := { decide := true }) only [c1, st_up_s, st_up_n, ne_eq, not_false_eq_true, not_true_eq_false, true_and, and_true, and_self, or_self, or_false, false_or, or_true, true_or, false_and, and_false, if_false, if_true, true_implies, false_implies, implies_true, exists_eq_left', exists_eq_left, forall_eq, forall_eq', ev_b0, Classical.not_not, reduceIte]
  by_cases w0 : w = 0
  · simp (config := { decide := true }) only [w0, st_up_s, st_up_n, ne_eq, not_false_eq_true, not_true_eq_false, true_and, and_true, and_self, or_self, or_false, false_or, or_true, true_or, false_and, and_false, if_false, if_true, true_implies, false_implies, implies_true, exists_eq_left', exists_eq_left, forall_eq, forall_eq', ev_b0, Classical.not_not, reduceIte, rm_P]
    all_goals first | exact ⟨rfl, rfl⟩ | exact ⟨rfl, fun _ => rfl⟩ | exact ⟨rfl, rfl, rfl⟩
  by_cases w1 : w = 1
  · simp (config := { decide := true }) only [w1, st_up_s, st_up_n, ne_eq, not_false_eq_true, not_true_eq_false, true_and, and_true, and_self, or_self, or_false, false_or, or_true, true_or, false_and, and_false, if_false, if_true, true_implies, false_implies, implies_true, exists_eq_left', exists_eq_left, forall_eq, forall_eq', ev_b0, Classical.not_not, reduceIte, rm_P]
    all_goals first | exact ⟨rfl, rfl⟩ | exact ⟨rfl, fun _ => rfl⟩ | exact ⟨rfl, rfl, rfl⟩
  by_cases w2 : w = 2
  · simp (config := { decide := true }) only [w2, st_up_s, st_up_n, ne_eq, not_false_eq_true, not_true_eq_false, true_and, and_true, and_self, or_self, or_false, false_or, or_true, true_or, false_and, and_false, if_false, if_true, true_implies, false_implies, implies_true, exists_eq_left', exists_eq_left, forall_eq, forall_eq', ev_b0, Classical.not_not, reduceIte, rm_P]
    all_goals first | exact ⟨rfl, rfl⟩ | exact ⟨rfl, fun _ => rfl⟩ | exact ⟨rfl, rfl, rfl⟩
  by_cases w3 : w = 3
  · simp (config := { decide := true }) only [w3, st_up_s, st_up_n, ne_eq, not_false_eq_true, not_true_eq_false, true_and, and_true, and_self, or_self, or_false, false_or, or_true, true_or, false_and, and_false, if_false, if_true, true_implies, false_implies, implies_true, exists_eq_left', exists_eq_left, forall_eq, forall_eq', ev_b0, Classical.not_not, reduceIte, rm_P]
    all_goals first | exact ⟨rfl, rfl⟩ | exact ⟨rfl, fun _ => rfl⟩ | exact ⟨rfl, rfl, rfl⟩
  by_cases w4 : w = 4
  · simp (config := { decide := true }) only [w4, st_up_s, st_up_n, ne_eq, not_false_eq_true, not_true_eq_false, true_and, and_true, and_self, or_self, or_false, false_or, or_true, true_or, false_and, and_false, if_false, if_true, true_implies, false_implies, implies_true, exists_eq_left', exists_eq_left, forall_eq, forall_eq', ev_b0, Classical.not_not, reduceIte, rm_P]
    all_goals first | exact ⟨rfl, rfl⟩ | exact ⟨rfl, fun _ => rfl⟩ | exact ⟨rfl, rfl, rfl⟩
  by_cases w5 : w = 5
  · simp (config := { decide := true }) only [w5, st_up_s, st_up_n, ne_eq, not_false_eq_true, not_true_eq_false, true_and, and_true, and_self, or_self, or_false, false_or, or_true, true_or, false_and, and_false, if_false, if_true, true_implies, false_implies, implies_true, exists_eq_left', exists_eq_left, forall_eq, forall_eq', ev_b0, Classical.not_not, reduceIte, rm_P]
    all_goals first | exact ⟨rfl, rfl⟩ | exact ⟨rfl, fun _ => rfl⟩ | exact ⟨rfl, rfl, rfl⟩
  by_cases w6 : w = 6
  · simp (config := { decide := true }) only [w6, st_up_s, st_up_n, ne_eq, not_false_eq_true, not_true_eq_false, true_and, and_true, and_self, or_self, or_false, false_or, or_true, true_or, false_and, and_false, if_false, if_true, true_implies, false_implies, implies_true, exists_eq_left', exists_eq_left, forall_eq, forall_eq', ev_b0, Classical.not_not, reduceIte, rm_P]
    all_goals first | exact ⟨rfl, rfl⟩ | exact ⟨rfl, fun _ => rfl⟩ | exact ⟨rfl, rfl, rfl⟩
  by_cases w7 : w = 7
  · simp (config := { decide := true }) only [w7, st_up_s, st_up_n, ne_eq, not_false_eq_true, not_true_eq_false, true_and, and_true, and_self, or_self, or_false, false_or, or_true, true_or, false_and, and_false, if_false, if_true, true_implies, false_implies, implies_true, exists_eq_left', exists_eq_left, forall_eq, forall_eq', ev_b0, Classical.not_not, reduceIte, rm_P]
    all_goals first | exact ⟨rfl, rfl⟩ | exact ⟨rfl, fun _ => rfl⟩ | exact ⟨rfl, rfl, rfl⟩
  by_cases w8 : w = 8
  · simp (config := { decide := true }) only [w8, st_up_s, st_up_n, ne_eq, not_false_eq_true, not_true_eq_false, true_and, and_true, and_self, or_self, or_false, false_or, or_true, true_or, false_and, and_false, if_false, if_true, true_implies, false_implies, implies_true, exists_eq_left', exists_eq_left, forall_eq, forall_eq', ev_b0, Classical.not_not, reduceIte, rm_P]
    all_goals first | exact ⟨rfl, rfl⟩ | exact ⟨rfl, fun _ => rfl⟩ | exact ⟨rfl, rfl, rfl⟩
  simp (config := { decide := true }) only [w0, w1, w2, w3, w4, w5, w6, w7, w8, es, st_up_s, st_up_n, ne_eq, not_false_eq_true, not_true_eq_false, true_and, and_true, and_self, or_self, or_false, false_or, or_true, true_or, false_and, and_false, if_false, if_true, true_implies, false_implies, implies_true, exists_eq_left', exists_eq_left, forall_eq, forall_eq', ev_b0, Classical.not_not, reduceIte]
  by_cases c45 : A 6 i = 4 ∨ A 6 i = 5
  · exact rp_told_155 hg hl ⟨rfl, fun _ => rfl⟩ c45 s 0 0 (by omega) rfl
  · have c4 : ¬ A 6 i = 4 := fun y => c45 (Or.inl y)
    have c5 : ¬ A 6 i = 5 := fun y => c45 (Or.inr y)
    refine vR_told_155 ?_
    simp only [rh_fs, rh_s0, rh_s1, rh_s12, rh_0, rh_1, rh_2, rh_3, rh_4, rh_5, rh_6, rh_7, rh_8, rh_9, rh_10, rh_11, rh_12, rh_13, rh_14, rh_15, rh_16, rh_17, rh_18, rh_19, rh_20, rh_21, rh_22, rr_2 hg, rs_2 hg, ra_2 hg, rr_3 hg, rs_3 hg, ra_3 hg, rr_4 hg, rs_4 hg, ra_4 hg, rr_5 hg, rs_5 hg, ra_5 hg, rr_6 hg, rs_6 hg, ra_6 hg, rr_7 hg, rs_7 hg, ra_7 hg, rr_8 hg, rs_8 hg, ra_8 hg, rr_9 hg, rs_9 hg, ra_9 hg, rr_10 hg, rs_10 hg, ra_10 hg, rr_11 hg, rs_11 hg, ra_11 hg, rr_13 hg, rs_13 hg, ra_13 hg, rr_14 hg, rs_14 hg, ra_14 hg, rr_15 hg, rs_15 hg, ra_15 hg, rr_16 hg, rs_16 hg, ra_16 hg, rr_17 hg, rs_17 hg, ra_17 hg, rr_18 hg, rs_18 hg, ra_18 hg, rr_19 hg, rs_19 hg, ra_19 hg, rr_20 hg, rs_20 hg, ra_20 hg, rr_21 hg, rs_21 hg, ra_21 hg, rr_22 hg, rs_22 hg, ra_22 hg, Option.some.injEq, Value.int.injEq, Value.ref.injEq, exists_eq_left', exists_eq_left, exists_eq', exists_and_left, and_assoc, true_and, forall_eq, forall_eq', not_false_eq_true, true_implies, and_true, ev_b0, Classical.not_not]
    simp (config := { decide := true }) only [i3, i5, k1, c4, c5, rm_P, st_up_s, st_up_n, ne_eq, not_false_eq_true, not_true_eq_false, true_and, and_true, and_self, or_self, or_false, false_or, or_true, true_or, false_and, and_false, if_false, if_true, true_implies, false_implies, implies_true, exists_eq_left', exists_eq_left, forall_eq, forall_eq', ev_b0, Classical.not_not, reduceIte]
    exact ⟨fun _ => ⟨rfl, rfl⟩, fun _ => ⟨rfl, rfl⟩⟩
theorem rp_lineOf (hg : rm_ok m ma) (hI : st_I no nl A) {p k : Int32} : Mt l G M_R_lineOf [.ref m, .int p, .int k] (RH m ma c (nI no) (nI nl) A h) (rm_P m ma h (op_lineOf no nl A p k)) := by
  refine vR_lineOf ?_
  simp only [rh_fs, rh_s0, rh_s1, rh_s12, rh_0, rh_1, rh_2, rh_3, rh_4, rh_5, rh_6, rh_7, rh_8, rh_9, rh_10, rh_11, rh_12, rh_13, rh_14, rh_15, rh_16, rh_17, rh_18, rh_19, rh_20, rh_21, rh_22, rr_2 hg, rs_2 hg, ra_2 hg, rr_3 hg, rs_3 hg, ra_3 hg, rr_4 hg, rs_4 hg, ra_4 hg, rr_5 hg, rs_5 hg, ra_5 hg, rr_6 hg, rs_6 hg, ra_6 hg, rr_7 hg, rs_7 hg, ra_7 hg, rr_8 hg, rs_8 hg, ra_8 hg, rr_9 hg, rs_9 hg, ra_9 hg, rr_10 hg, rs_10 hg, ra_10 hg, rr_11 hg, rs_11 hg, ra_11 hg, rr_13 hg, rs_13 hg, ra_13 hg, rr_14 hg, rs_14 hg, ra_14 hg, rr_15 hg, rs_15 hg, ra_15 hg, rr_16 hg, rs_16 hg, ra_16 hg, rr_17 hg, rs_17 hg, ra_17 hg, rr_18 hg, rs_18 hg, ra_18 hg, rr_19 hg, rs_19 hg, ra_19 hg, rr_20 hg, rs_20 hg, ra_20 hg, rr_21 hg, rs_21 hg, ra_21 hg, rr_22 hg, rs_22 hg, ra_22 hg, Option.some.injEq, Value.int.injEq, Value.ref.injEq, exists_eq_left', exists_eq_left, exists_eq', exists_and_left, and_assoc, true_and, forall_eq, forall_eq', not_false_eq_true, true_implies, and_true, ev_b0, Classical.not_not]
  rcases st_ix p (n := no) (by have := hI.1; omega) with ⟨i, hi, rfl, i1, i2, i3, i4, i5⟩ | ⟨i1, i2, i3⟩
  rotate_left
  · simp (config := { decide := true }) only [i2, i3, st_up_s, st_up_n, ne_eq, not_false_eq_true, not_true_eq_false, true_and, and_true, and_self, or_self, or_false, false_or, or_true, true_or, false_and, and_false, if_false, if_true, true_implies, false_implies, implies_true, exists_eq_left', exists_eq_left, forall_eq, forall_eq', ev_b0, Classical.not_not, reduceIte, rm_P, op_lineOf]
  obtain ⟨s, hl⟩ := sl_ok_of hI hi
  have k1 := hl.1
  simp (config := { decide := true }) only [i2, i3, i4, i5, k1, st_up_s, st_up_n, ne_eq, not_false_eq_true, not_true_eq_false, true_and, and_true, and_self, or_self, or_false, false_or, or_true, true_or, false_and, and_false, if_false, if_true, true_implies, false_implies, implies_true, exists_eq_left', exists_eq_left, forall_eq, forall_eq', ev_b0, Classical.not_not, reduceIte, op_lineOf, op_lineOf1]
  by_cases c1 : k < 0
  · have c2 : ¬ 0 ≤ k := Int32.not_le.mpr c1
    simp (config := { decide := true }) only [c1, c2, st_up_s, st_up_n, ne_eq, not_false_eq_true, not_true_eq_false, true_and, and_true, and_self, or_self, or_false, false_or, or_true, true_or, false_and, and_false, if_false, if_true, true_implies, false_implies, implies_true, exists_eq_left', exists_eq_left, forall_eq, forall_eq', ev_b0, Classical.not_not, reduceIte, rm_P]
  · have c2 : 0 ≤ k := Int32.not_lt.mp c1
    simp (config := { decide := true }) only [c1, c2, st_up_s, st_up_n, ne_eq, not_false_eq_true, not_true_eq_false, true_and, and_true, and_self, or_self, or_false, false_or, or_true, true_or, false_and, and_false, if_false, if_true, true_implies, false_implies, implies_true, exists_eq_left', exists_eq_left, forall_eq, forall_eq', ev_b0, Classical.not_not, reduceIte]
    by_cases c3 : A 10 i ≤ k
    · have c4 : ¬ k < A 10 i := Int32.not_lt.mpr c3
      simp (config := { decide := true }) only [c3, c4, st_up_s, st_up_n, ne_eq, not_false_eq_true, not_true_eq_false, true_and, and_true, and_self, or_self, or_false, false_or, or_true, true_or, false_and, and_false, if_false, if_true, true_implies, false_implies, implies_true, exists_eq_left', exists_eq_left, forall_eq, forall_eq', ev_b0, Classical.not_not, reduceIte, rm_P]
      all_goals first | exact ⟨rfl, rfl⟩ | exact ⟨rfl, fun _ => rfl⟩ | exact ⟨rfl, rfl, rfl⟩
    · have c4 : k < A 10 i := Int32.not_le.mp c3
      obtain ⟨kk, hkk, rfl⟩ := nI_of c1
      have hks : kk < s := by
        have := hl.2.1
        rw [hl.2.2.1] at c4
        rcases Nat.lt_or_ge kk s with z | z
        · exact z
        · exact absurd c4 (nI_nlt z hkk)
      obtain ⟨j, j1, j2, j3, j4, j5, j6, j7, j8⟩ := hl.at hks
      simp (config := { decide := true }) only [c3, c4, nI_8k, nI_clamp hkk, j2, j6, j7, j8, st_up_s, st_up_n, ne_eq, not_false_eq_true, not_true_eq_false, true_and, and_true, and_self, or_self, or_false, false_or, or_true, true_or, false_and, and_false, if_false, if_true, true_implies, false_implies, implies_true, exists_eq_left', exists_eq_left, forall_eq, forall_eq', ev_b0, Classical.not_not, reduceIte, rm_P]
      all_goals first | exact ⟨rfl, rfl⟩ | exact ⟨rfl, fun _ => rfl⟩ | exact ⟨rfl, rfl, rfl⟩
theorem rp_count_28 (hg : rm_ok m ma) (hI : st_I no nl A) {w : Int32} {P : ev_Post} (hP : P (.inl (some (.int (if w = 2 ∨ w = 3 then st_sum (fun j => if w = 2 then (if ¬ A 21 j = 0 ∧ A 6 (st_h A j) < 4 then A 18 j else 0) else A 20 j) nl 0 0 else -1)))) (RH m ma c (nI no) (nI nl) A h)) :
    ∀ (d k : Nat) (a : Int32), k + d = nl → st_sum (fun j => if w = 2 then (if ¬ A 21 j = 0 ∧ A 6 (st_h A j) < 4 then A 18 j else 0) else A 20 j) d k a = st_sum (fun j => if w = 2 then (if ¬ A 21 j = 0 ∧ A 6 (st_h A j) < 4 then A 18 j else 0) else A 20 j) nl 0 0 → Ev l G M_R_count 28 [(0, .ref m), (1, .int w), (2, .int a), (3, .int (nI k))] [] (RH m ma c (nI no) (nI nl) A h) 0 0 (ev_fin G M_R_count P) := by
  have hnl := hI.1.2
  intro d
  induction d with
  | zero =>
    intro k a e e0
    obtain rfl : k = nl := by omega
    rw [st_sum] at e0
    subst e0
    refine vR_count_28 ?_
    simp only [rh_fs, rh_s0, rh_s1, rh_s12, rh_0, rh_1, rh_2, rh_3, rh_4, rh_5, rh_6, rh_7, rh_8, rh_9, rh_10, rh_11, rh_12, rh_13, rh_14, rh_15, rh_16, rh_17, rh_18, rh_19, rh_20, rh_21, rh_22, rr_2 hg, rs_2 hg, ra_2 hg, rr_3 hg, rs_3 hg, ra_3 hg, rr_4 hg, rs_4 hg, ra_4 hg, rr_5 hg, rs_5 hg, ra_5 hg, rr_6 hg, rs_6 hg, ra_6 hg, rr_7 hg, rs_7 hg, ra_7 hg, rr_8 hg, rs_8 hg, ra_8 hg, rr_9 hg, rs_9 hg, ra_9 hg, rr_10 hg, rs_10 hg, ra_10 hg, rr_11 hg, rs_11 hg, ra_11 hg, rr_13 hg, rs_13 hg, ra_13 hg, rr_14 hg, rs_14 hg, ra_14 hg, rr_15 hg, rs_15 hg, ra_15 hg, rr_16 hg, rs_16 hg, ra_16 hg, rr_17 hg, rs_17 hg, ra_17 hg, rr_18 hg, rs_18 hg, ra_18 hg, rr_19 hg, rs_19 hg, ra_19 hg, rr_20 hg, rs_20 hg, ra_20 hg, rr_21 hg, rs_21 hg, ra_21 hg, rr_22 hg, rs_22 hg, ra_22 hg, Option.some.injEq, Value.int.injEq, Value.ref.injEq, exists_eq_left', exists_eq_left, exists_eq', exists_and_left, and_assoc, true_and, forall_eq, forall_eq', not_false_eq_true, true_implies, and_true, ev_b0, Classical.not_not]
    simp (config := { decide := true }) only [Int32.le_refl, st_up_s, st_up_n, ne_eq, not_false_eq_true, not_true_eq_false, true_and, and_true, and_self, or_self, or_false, false_or, or_true, true_or, false_and, and_false, if_false, if_true, true_implies, false_implies, implies_true, exists_eq_left', exists_eq_left, forall_eq, forall_eq', ev_b0, Classical.not_not, reduceIte]
    by_cases w2 : w = 2
    · simp (config := { decide := true }) only [w2, st_up_s, st_up_n, ne_eq, not_false_eq_true, not_true_eq_false, true_and, and_true, and_self, or_self, or_false, false_or, or_true, true_or, false_and, and_false, if_false, if_true, true_implies, false_implies, implies_true, exists_eq_left', exists_eq_left, forall_eq, forall_eq', ev_b0, Classical.not_not, reduceIte] at hP ⊢
      exact hP
    · by_cases w3 : w = 3
      · simp (config := { decide := true }) only [w3, st_up_s, st_up_n, ne_eq, not_false_eq_true, not_true_eq_false, true_and, and_true, and_self, or_self, or_false, false_or, or_true, true_or, false_and, and_false, if_false, if_true, true_implies, false_implies, implies_true, exists_eq_left', exists_eq_left, forall_eq, forall_eq', ev_b0, Classical.not_not, reduceIte] at hP ⊢
        exact hP
      · simp (config := { decide := true }) only [w2, w3, st_up_s, st_up_n, ne_eq, not_false_eq_true, not_true_eq_false, true_and, and_true, and_self, or_self, or_false, false_or, or_true, true_or, false_and, and_false, if_false, if_true, true_implies, false_implies, implies_true, exists_eq_left', exists_eq_left, forall_eq, forall_eq', ev_b0, Classical.not_not, reduceIte] at hP ⊢
        exact hP
  | succ d ih =>
    intro k a e e0
    have hk : ¬ nI nl ≤ nI k := nI_ge (by omega) (by omega)
    have k1 : (nI k).toNatClampNeg = k := nI_clamp (by omega)
    have k2 : ¬ nI k < 0 := nI_pos (by omega)
    obtain ⟨i, hi, i2, k3, e13, eh, i3, i4⟩ := st_I_13 hI (show k < nl by omega)
    rw [st_sum] at e0
    have := ih (k + 1) _ (by omega) e0
    rw [eh] at this
    refine vR_count_28 ?_
    simp only [rh_fs, rh_s0, rh_s1, rh_s12, rh_0, rh_1, rh_2, rh_3, rh_4, rh_5, rh_6, rh_7, rh_8, rh_9, rh_10, rh_11, rh_12, rh_13, rh_14, rh_15, rh_16, rh_17, rh_18, rh_19, rh_20, rh_21, rh_22, rr_2 hg, rs_2 hg, ra_2 hg, rr_3 hg, rs_3 hg, ra_3 hg, rr_4 hg, rs_4 hg, ra_4 hg, rr_5 hg, rs_5 hg, ra_5 hg, rr_6 hg, rs_6 hg, ra_6 hg, rr_7 hg, rs_7 hg, ra_7 hg, rr_8 hg, rs_8 hg, ra_8 hg, rr_9 hg, rs_9 hg, ra_9 hg, rr_10 hg, rs_10 hg, ra_10 hg, rr_11 hg, rs_11 hg, ra_11 hg, rr_13 hg, rs_13 hg, ra_13 hg, rr_14 hg, rs_14 hg, ra_14 hg, rr_15 hg, rs_15 hg, ra_15 hg, rr_16 hg, rs_16 hg, ra_16 hg, rr_17 hg, rs_17 hg, ra_17 hg, rr_18 hg, rs_18 hg, ra_18 hg, rr_19 hg, rs_19 hg, ra_19 hg, rr_20 hg, rs_20 hg, ra_20 hg, rr_21 hg, rs_21 hg, ra_21 hg, rr_22 hg, rs_22 hg, ra_22 hg, Option.some.injEq, Value.int.injEq, Value.ref.injEq, exists_eq_left', exists_eq_left, exists_eq', exists_and_left, and_assoc, true_and, forall_eq, forall_eq', not_false_eq_true, true_implies, and_true, ev_b0, Classical.not_not]
    simp (config := { decide := true }) only [hk, k1, k2, k3, e13, i2, i3, i4, nI_1, st_up_s, st_up_n, ne_eq, not_false_eq_true, not_true_eq_false, true_and, and_true, and_self, or_self, or_false, false_or, or_true, true_or, false_and, and_false, if_false, if_true, true_implies, false_implies, implies_true, exists_eq_left', exists_eq_left, forall_eq, forall_eq', ev_b0, Classical.not_not, reduceIte]
    by_cases w2 : w = 2
    · by_cases c1 : A 21 k = 0
      · simp (config := { decide := true }) only [w2, c1, st_up_s, st_up_n, ne_eq, not_false_eq_true, not_true_eq_false, true_and, and_true, and_self, or_self, or_false, false_or, or_true, true_or, false_and, and_false, if_false, if_true, true_implies, false_implies, implies_true, exists_eq_left', exists_eq_left, forall_eq, forall_eq', ev_b0, Classical.not_not, reduceIte] at this ⊢
        exact this
      · by_cases c2 : 4 ≤ A 6 i
        · have c3 : ¬ A 6 i < 4 := Int32.not_lt.mpr c2
          simp (config := { decide := true }) only [w2, c1, c2, c3, st_up_s, st_up_n, ne_eq, not_false_eq_true, not_true_eq_false, true_and, and_true, and_self, or_self, or_false, false_or, or_true, true_or, false_and, and_false, if_false, if_true, true_implies, false_implies, implies_true, exists_eq_left', exists_eq_left, forall_eq, forall_eq', ev_b0, Classical.not_not, reduceIte] at this ⊢
          exact this
        · have c3 : A 6 i < 4 := Int32.not_le.mp c2
          simp (config := { decide := true }) only [w2, c1, c2, c3, st_up_s, st_up_n, ne_eq, not_false_eq_true, not_true_eq_false, true_and, and_true, and_self, or_self, or_false, false_or, or_true, true_or, false_and, and_false, if_false, if_true, true_implies, false_implies, implies_true, exists_eq_left', exists_eq_left, forall_eq, forall_eq', ev_b0, Classical.not_not, reduceIte] at this ⊢
          exact this
    · simp (config := { decide := true }) only [w2, st_up_s, st_up_n, ne_eq, not_false_eq_true, not_true_eq_false, true_and, and_true, and_self, or_self, or_false, false_or, or_true, true_or, false_and, and_false, if_false, if_true, true_implies, false_implies, implies_true, exists_eq_left', exists_eq_left, forall_eq, forall_eq', ev_b0, Classical.not_not, reduceIte] at this ⊢
      exact this
theorem rp_count (hg : rm_ok m ma) (hI : st_I no nl A) {w : Int32} : Mt l G M_R_count [.ref m, .int w] (RH m ma c (nI no) (nI nl) A h) (rm_P m ma h (op_count no nl A w)) := by
  refine vR_count ?_
  simp only [rh_fs, rh_s0, rh_s1, rh_s12, rh_0, rh_1, rh_2, rh_3, rh_4, rh_5, rh_6, rh_7, rh_8, rh_9, rh_10, rh_11, rh_12, rh_13, rh_14, rh_15, rh_16, rh_17, rh_18, rh_19, rh_20, rh_21, rh_22, rr_2 hg, rs_2 hg, ra_2 hg, rr_3 hg, rs_3 hg, ra_3 hg, rr_4 hg, rs_4 hg, ra_4 hg, rr_5 hg, rs_5 hg, ra_5 hg, rr_6 hg, rs_6 hg, ra_6 hg, rr_7 hg, rs_7 hg, ra_7 hg, rr_8 hg, rs_8 hg, ra_8 hg, rr_9 hg, rs_9 hg, ra_9 hg, rr_10 hg, rs_10 hg, ra_10 hg, rr_11 hg, rs_11 hg, ra_11 hg, rr_13 hg, rs_13 hg, ra_13 hg, rr_14 hg, rs_14 hg, ra_14 hg, rr_15 hg, rs_15 hg, ra_15 hg, rr_16 hg, rs_16 hg, ra_16 hg, rr_17 hg, rs_17 hg, ra_17 hg, rr_18 hg, rs_18 hg, ra_18 hg, rr_19 hg, rs_19 hg, ra_19 hg, rr_20 hg, rs_20 hg, ra_20 hg, rr_21 hg, rs_21 hg, ra_21 hg, rr_22 hg, rs_22 hg, ra_22 hg, Option.some.injEq, Value.int.injEq, Value.ref.injEq, exists_eq_left', exists_eq_left, exists_eq', exists_and_left, and_assoc, true_and, forall_eq, forall_eq', not_false_eq_true, true_implies, and_true, ev_b0, Classical.not_not]
  by_cases w0 : w = 0
  · simp (config := { decide := true }) only [w0, st_up_s, st_up_n, ne_eq, not_false_eq_true, not_true_eq_false, true_and, and_true, and_self, or_self, or_false, false_or, or_true, true_or, false_and, and_false, if_false, if_true, true_implies, false_implies, implies_true, exists_eq_left', exists_eq_left, forall_eq, forall_eq', ev_b0, Classical.not_not, reduceIte, rm_P, op_count]
    all_goals first | exact ⟨rfl, rfl⟩ | exact ⟨rfl, fun _ => rfl⟩ | exact ⟨rfl, rfl, rfl⟩
  by_cases w1 : w = 1
  · simp (config := { decide := true }) only [w1, st_up_s, st_up_n, ne_eq, not_false_eq_true, not_true_eq_false, true_and, and_true, and_self, or_self, or_false, false_or, or_true, true_or, false_and, and_false, if_false, if_true, true_implies, false_implies, implies_true, exists_eq_left', exists_eq_left, forall_eq, forall_eq', ev_b0, Classical.not_not, reduceIte, rm_P, op_count]
    all_goals first | exact ⟨rfl, rfl⟩ | exact ⟨rfl, fun _ => rfl⟩ | exact ⟨rfl, rfl, rfl⟩
  simp (config := { decide := true }) only [w0, w1, st_up_s, st_up_n, ne_eq, not_false_eq_true, not_true_eq_false, true_and, and_true, and_self, or_self, or_false, false_or, or_true, true_or, false_and, and_false, if_false, if_true, true_implies, false_implies, implies_true, exists_eq_left', exists_eq_left, forall_eq, forall_eq', ev_b0, Classical.not_not, reduceIte]
  refine rp_count_28 hg hI ?_ nl 0 0 (by omega) rfl
  by_cases w2 : w = 2
  · simp (config := { decide := true }) only [w2, rm_P, op_count, st_up_s, st_up_n, ne_eq, not_false_eq_true, not_true_eq_false, true_and, and_true, and_self, or_self, or_false, false_or, or_true, true_or, false_and, and_false, if_false, if_true, true_implies, false_implies, implies_true, exists_eq_left', exists_eq_left, forall_eq, forall_eq', ev_b0, Classical.not_not, reduceIte]
    all_goals first | exact ⟨rfl, rfl⟩ | exact ⟨rfl, fun _ => rfl⟩ | exact ⟨rfl, rfl, rfl⟩
  · by_cases w3 : w = 3
    · simp (config := { decide := true }) only [w3, rm_P, op_count, st_up_s, st_up_n, ne_eq, not_false_eq_true, not_true_eq_false, true_and, and_true, and_self, or_self, or_false, false_or, or_true, true_or, false_and, and_false, if_false, if_true, true_implies, false_implies, implies_true, exists_eq_left', exists_eq_left, forall_eq, forall_eq', ev_b0, Classical.not_not, reduceIte]
      all_goals first | exact ⟨rfl, rfl⟩ | exact ⟨rfl, fun _ => rfl⟩ | exact ⟨rfl, rfl, rfl⟩
    · simp (config := { decide := true }) only [w0, w1, w2, w3, rm_P, op_count, st_up_s, st_up_n, ne_eq, not_false_eq_true, not_true_eq_false, true_and, and_true, and_self, or_self, or_false, false_or, or_true, true_or, false_and, and_false, if_false, if_true, true_implies, false_implies, implies_true, exists_eq_left', exists_eq_left, forall_eq, forall_eq', ev_b0, Classical.not_not, reduceIte]
      all_goals first | exact ⟨rfl, rfl⟩ | exact ⟨rfl, fun _ => rfl⟩ | exact ⟨rfl, rfl, rfl⟩
end R6
