/-! THE REFERENCE's methods do the operations -/
theorem st_c3 (w : Int32) : w = 0 ∨ w = 1 ∨ w = 2 ∨ (¬ w = 0 ∧ ¬ w = 1 ∧ ¬ w = 2) := by
  by_cases h0 : w = 0
  · exact Or.inl h0
  · by_cases h1 : w = 1
    · exact Or.inr (Or.inl h1)
    · by_cases h2 : w = 2
      · exact Or.inr (Or.inr (Or.inl h2))
      · exact Or.inr (Or.inr (Or.inr ⟨h0, h1, h2⟩))
section R1
variable {l : Launch} {G : ev_G} {m : Nat} {ma : Nat → Nat} {c : Int32} {no nl : Nat} {A : st_A} {h : ev_AH}
theorem rp_hold (hg : rm_ok m ma) (hI : st_I no nl A) {p n : Int32} : Mt l G M_R_hold [.ref m, .int p, .int n] (RH m ma c (nI no) (nI nl) A h) (rm_P m ma h (op_hold no nl A p n)) := by
  refine vR_hold ?_
  simp only [rh_fs, rh_s0, rh_s1, rh_s12, rh_0, rh_1, rh_2, rh_3, rh_4, rh_5, rh_6, rh_7, rh_8, rh_9, rh_10, rh_11, rh_12, rh_13, rh_14, rh_15, rh_16, rh_17, rh_18, rh_19, rh_20, rh_21, rh_22, rr_2 hg, rs_2 hg, ra_2 hg, rr_3 hg, rs_3 hg, ra_3 hg, rr_4 hg, rs_4 hg, ra_4 hg, rr_5 hg, rs_5 hg, ra_5 hg, rr_6 hg, rs_6 hg, ra_6 hg, rr_7 hg, rs_7 hg, ra_7 hg, rr_8 hg, rs_8 hg, ra_8 hg, rr_9 hg, rs_9 hg, ra_9 hg, rr_10 hg, rs_10 hg, ra_10 hg, rr_11 hg, rs_11 hg, ra_11 hg, rr_13 hg, rs_13 hg, ra_13 hg, rr_14 hg, rs_14 hg, ra_14 hg, rr_15 hg, rs_15 hg, ra_15 hg, rr_16 hg, rs_16 hg, ra_16 hg, rr_17 hg, rs_17 hg, ra_17 hg, rr_18 hg, rs_18 hg, ra_18 hg, rr_19 hg, rs_19 hg, ra_19 hg, rr_20 hg, rs_20 hg, ra_20 hg, rr_21 hg, rs_21 hg, ra_21 hg, rr_22 hg, rs_22 hg, ra_22 hg, Option.some.injEq, Value.int.injEq, Value.ref.injEq, exists_eq_left', exists_eq_left, exists_eq', exists_and_left, and_assoc, true_and, forall_eq, forall_eq', not_false_eq_true, true_implies, and_true, ev_b0, Classical.not_not]
  rcases st_ix p (n := nl) (by have := hI.1; omega) with ⟨j, hj, rfl, i1, i2, i3, i4, i5⟩ | ⟨i1, i2, i3⟩
  · obtain ⟨i, hi, k2, k1, e13, eh, k3, k4⟩ := st_I_13 hI hj
    simp (config := { decide := true }) only [i2, i3, i4, i5, k1, e13, eh, k3, k4, k2, st_up_s, st_up_n, ne_eq, not_false_eq_true, not_true_eq_false, true_and, and_true, and_self, or_self, or_false, false_or, or_true, true_or, false_and, and_false, if_false, if_true, true_implies, false_implies, implies_true, exists_eq_left', exists_eq_left, forall_eq, forall_eq', ev_b0, Classical.not_not, reduceIte, rm_P, op_hold, op_hold1]
    clear i1 i2 i3 i4 hI hg
    grind (splits := 30)
  · simp (config := { decide := true }) only [i2, i3, st_up_s, st_up_n, ne_eq, not_false_eq_true, not_true_eq_false, true_and, and_true, and_self, or_self, or_false, false_or, or_true, true_or, false_and, and_false, if_false, if_true, true_implies, false_implies, implies_true, exists_eq_left', exists_eq_left, forall_eq, forall_eq', ev_b0, Classical.not_not, reduceIte, rm_P, op_hold]
theorem rp_pick (hg : rm_ok m ma) (hI : st_I no nl A) {p n : Int32} : Mt l G M_R_pick [.ref m, .int p, .int n] (RH m ma c (nI no) (nI nl) A h) (rm_P m ma h (op_pick no nl A p n)) := by
  refine vR_pick ?_
  simp only [rh_fs, rh_s0, rh_s1, rh_s12, rh_0, rh_1, rh_2, rh_3, rh_4, rh_5, rh_6, rh_7, rh_8, rh_9, rh_10, rh_11, rh_12, rh_13, rh_14, rh_15, rh_16, rh_17, rh_18, rh_19, rh_20, rh_21, rh_22, rr_2 hg, rs_2 hg, ra_2 hg, rr_3 hg, rs_3 hg, ra_3 hg, rr_4 hg, rs_4 hg, ra_4 hg, rr_5 hg, rs_5 hg, ra_5 hg, rr_6 hg, rs_6 hg, ra_6 hg, rr_7 hg, rs_7 hg, ra_7 hg, rr_8 hg, rs_8 hg, ra_8 hg, rr_9 hg, rs_9 hg, ra_9 hg, rr_10 hg, rs_10 hg, ra_10 hg, rr_11 hg, rs_11 hg, ra_11 hg, rr_13 hg, rs_13 hg, ra_13 hg, rr_14 hg, rs_14 hg, ra_14 hg, rr_15 hg, rs_15 hg, ra_15 hg, rr_16 hg, rs_16 hg, ra_16 hg, rr_17 hg, rs_17 hg, ra_17 hg, rr_18 hg, rs_18 hg, ra_18 hg, rr_19 hg, rs_19 hg, ra_19 hg, rr_20 hg, rs_20 hg, ra_20 hg, rr_21 hg, rs_21 hg, ra_21 hg, rr_22 hg, rs_22 hg, ra_22 hg, Option.some.injEq, Value.int.injEq, Value.ref.injEq, exists_eq_left', exists_eq_left, exists_eq', exists_and_left, and_assoc, true_and, forall_eq, forall_eq', not_false_eq_true, true_implies, and_true, ev_b0, Classical.not_not]
  rcases st_ix p (n := nl) (by have := hI.1; omega) with ⟨j, hj, rfl, i1, i2, i3, i4, i5⟩ | ⟨i1, i2, i3⟩
  · obtain ⟨i, hi, k2, k1, e13, eh, k3, k4⟩ := st_I_13 hI hj
    simp (config := { decide := true }) only [i2, i3, i4, i5, k1, e13, eh, k3, k4, k2, st_up_s, st_up_n, ne_eq, not_false_eq_true, not_true_eq_false, true_and, and_true, and_self, or_self, or_false, false_or, or_true, true_or, false_and, and_false, if_false, if_true, true_implies, false_implies, implies_true, exists_eq_left', exists_eq_left, forall_eq, forall_eq', ev_b0, Classical.not_not, reduceIte, rm_P, op_pick, op_pick1]
    clear i1 i2 i3 i4 hI hg
    grind (splits := 30)
  · simp (config := { decide := true }) only [i2, i3, st_up_s, st_up_n, ne_eq, not_false_eq_true, not_true_eq_false, true_and, and_true, and_self, or_self, or_false, false_or, or_true, true_or, false_and, and_false, if_false, if_true, true_implies, false_implies, implies_true, exists_eq_left', exists_eq_left, forall_eq, forall_eq', ev_b0, Classical.not_not, reduceIte, rm_P, op_pick]
theorem rp_move (hg : rm_ok m ma) (hI : st_I no nl A) {p d : Int32} : Mt l G M_R_move [.ref m, .int p, .int d] (RH m ma c (nI no) (nI nl) A h) (rm_P m ma h (op_move no nl A p d)) := by
  refine vR_move ?_
  simp only [rh_fs, rh_s0, rh_s1, rh_s12, rh_0, rh_1, rh_2, rh_3, rh_4, rh_5, rh_6, rh_7, rh_8, rh_9, rh_10, rh_11, rh_12, rh_13, rh_14, rh_15, rh_16, rh_17, rh_18, rh_19, rh_20, rh_21, rh_22, rr_2 hg, rs_2 hg, ra_2 hg, rr_3 hg, rs_3 hg, ra_3 hg, rr_4 hg, rs_4 hg, ra_4 hg, rr_5 hg, rs_5 hg, ra_5 hg, rr_6 hg, rs_6 hg, ra_6 hg, rr_7 hg, rs_7 hg, ra_7 hg, rr_8 hg, rs_8 hg, ra_8 hg, rr_9 hg, rs_9 hg, ra_9 hg, rr_10 hg, rs_10 hg, ra_10 hg, rr_11 hg, rs_11 hg, ra_11 hg, rr_13 hg, rs_13 hg, ra_13 hg, rr_14 hg, rs_14 hg, ra_14 hg, rr_15 hg, rs_15 hg, ra_15 hg, rr_16 hg, rs_16 hg, ra_16 hg, rr_17 hg, rs_17 hg, ra_17 hg, rr_18 hg, rs_18 hg, ra_18 hg, rr_19 hg, rs_19 hg, ra_19 hg, rr_20 hg, rs_20 hg, ra_20 hg, rr_21 hg, rs_21 hg, ra_21 hg, rr_22 hg, rs_22 hg, ra_22 hg, Option.some.injEq, Value.int.injEq, Value.ref.injEq, exists_eq_left', exists_eq_left, exists_eq', exists_and_left, and_assoc, true_and, forall_eq, forall_eq', not_false_eq_true, true_implies, and_true, ev_b0, Classical.not_not]
  rcases st_ix p (n := no) (by have := hI.1; omega) with ⟨i, hi, rfl, i1, i2, i3, i4, i5⟩ | ⟨i1, i2, i3⟩
  · have k1 : i < 20 := by have := hI.1; omega
    simp (config := { decide := true }) only [i2, i3, i4, i5, k1, st_up_s, st_up_n, ne_eq, not_false_eq_true, not_true_eq_false, true_and, and_true, and_self, or_self, or_false, false_or, or_true, true_or, false_and, and_false, if_false, if_true, true_implies, false_implies, implies_true, exists_eq_left', exists_eq_left, forall_eq, forall_eq', ev_b0, Classical.not_not, reduceIte, rm_P, op_move, op_move1]
    clear i1 i2 i3 i4 hI hg
    grind (splits := 30)
  · simp (config := { decide := true }) only [i2, i3, st_up_s, st_up_n, ne_eq, not_false_eq_true, not_true_eq_false, true_and, and_true, and_self, or_self, or_false, false_or, or_true, true_or, false_and, and_false, if_false, if_true, true_implies, false_implies, implies_true, exists_eq_left', exists_eq_left, forall_eq, forall_eq', ev_b0, Classical.not_not, reduceIte, rm_P, op_move]
theorem rp_change (hg : rm_ok m ma) (hI : st_I no nl A) {p w v : Int32} : Mt l G M_R_change [.ref m, .int p, .int w, .int v] (RH m ma c (nI no) (nI nl) A h) (rm_P m ma h (op_change no nl A p w v)) := by
  refine vR_change ?_
  simp only [rh_fs, rh_s0, rh_s1, rh_s12, rh_0, rh_1, rh_2, rh_3, rh_4, rh_5, rh_6, rh_7, rh_8, rh_9, rh_10, rh_11, rh_12, rh_13, rh_14, rh_15, rh_16, rh_17, rh_18, rh_19, rh_20, rh_21, rh_22, rr_2 hg, rs_2 hg, ra_2 hg, rr_3 hg, rs_3 hg, ra_3 hg, rr_4 hg, rs_4 hg, ra_4 hg, rr_5 hg, rs_5 hg, ra_5 hg, rr_6 hg, rs_6 hg, ra_6 hg, rr_7 hg, rs_7 hg, ra_7 hg, rr_8 hg, rs_8 hg, ra_8 hg, rr_9 hg, rs_9 hg, ra_9 hg, rr_10 hg, rs_10 hg, ra_10 hg, rr_11 hg, rs_11 hg, ra_11 hg, rr_13 hg, rs_13 hg, ra_13 hg, rr_14 hg, rs_14 hg, ra_14 hg, rr_15 hg, rs_15 hg, ra_15 hg, rr_16 hg, rs_16 hg, ra_16 hg, rr_17 hg, rs_17 hg, ra_17 hg, rr_18 hg, rs_18 hg, ra_18 hg, rr_19 hg, rs_19 hg, ra_19 hg, rr_20 hg, rs_20 hg, ra_20 hg, rr_21 hg, rs_21 hg, ra_21 hg, rr_22 hg, rs_22 hg, ra_22 hg, Option.some.injEq, Value.int.injEq, Value.ref.injEq, exists_eq_left', exists_eq_left, exists_eq', exists_and_left, and_assoc, true_and, forall_eq, forall_eq', not_false_eq_true, true_implies, and_true, ev_b0, Classical.not_not]
  rcases st_ix p (n := nl) (by have := hI.1; omega) with ⟨j, hj, rfl, i1, i2, i3, i4, i5⟩ | ⟨i1, i2, i3⟩
  · obtain ⟨i, hi, k2, k1, e13, eh, k3, k4⟩ := st_I_13 hI hj
    rcases st_c3 w with rfl | rfl | rfl | ⟨w0, w1, w2⟩
    · simp (config := { decide := true }) only [i2, i3, i4, i5, k1, e13, eh, k3, k4, k2, st_up_s, st_up_n, ne_eq, not_false_eq_true, not_true_eq_false, true_and, and_true, and_self, or_self, or_false, false_or, or_true, true_or, false_and, and_false, if_false, if_true, true_implies, false_implies, implies_true, exists_eq_left', exists_eq_left, forall_eq, forall_eq', ev_b0, Classical.not_not, reduceIte, rm_P, op_change, op_change1]
      clear i1 i2 i3 i4 hI hg
      grind (splits := 30)
    · simp (config := { decide := true }) only [i2, i3, i4, i5, k1, e13, eh, k3, k4, k2, st_up_s, st_up_n, ne_eq, not_false_eq_true, not_true_eq_false, true_and, and_true, and_self, or_self, or_false, false_or, or_true, true_or, false_and, and_false, if_false, if_true, true_implies, false_implies, implies_true, exists_eq_left', exists_eq_left, forall_eq, forall_eq', ev_b0, Classical.not_not, reduceIte, rm_P, op_change, op_change1]
      clear i1 i2 i3 i4 hI hg
      grind (splits := 30)
    · simp (config := { decide := true }) only [i2, i3, i4, i5, k1, e13, eh, k3, k4, k2, st_up_s, st_up_n, ne_eq, not_false_eq_true, not_true_eq_false, true_and, and_true, and_self, or_self, or_false, false_or, or_true, true_or, false_and, and_false, if_false, if_true, true_implies, false_implies, implies_true, exists_eq_left', exists_eq_left, forall_eq, forall_eq', ev_b0, Classical.not_not, reduceIte, rm_P, op_change, op_change1]
      clear i1 i2 i3 i4 hI hg
      grind (splits := 30)
    · simp (config := { decide := true }) only [w0, w1, w2, i2, i3, i4, i5, k1, e13, eh, k3, k4, k2, st_up_s, st_up_n, ne_eq, not_false_eq_true, not_true_eq_false, true_and, and_true, and_self, or_self, or_false, false_or, or_true, true_or, false_and, and_false, if_false, if_true, true_implies, false_implies, implies_true, exists_eq_left', exists_eq_left, forall_eq, forall_eq', ev_b0, Classical.not_not, reduceIte, rm_P, op_change, op_change1]
  · simp (config := { decide := true }) only [i2, i3, st_up_s, st_up_n, ne_eq, not_false_eq_true, not_true_eq_false, true_and, and_true, and_self, or_self, or_false, false_or, or_true, true_or, false_and, and_false, if_false, if_true, true_implies, false_implies, implies_true, exists_eq_left', exists_eq_left, forall_eq, forall_eq', ev_b0, Classical.not_not, reduceIte, rm_P, op_change]
end R1
