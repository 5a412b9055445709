/-! THE CLASS: change, told, lineOf, count, ready -/
section X4
variable {l : Launch} {G : ev_G} {x ol ll : Nat} {oa la lo ow : Nat → Nat} {no nl : Nat} {A B : st_A} {h : ev_AH}
theorem xp_rcv {w v : Int32} {h : ev_AH} (hw : 0 ≤ w ∧ w ≤ 2) : Mt l G M_X_requireChangeValue [.int w, .int v] h (ev_pv (fun h' => ((w = 0 ∧ 1 ≤ v ∧ v ≤ 1000) ∨ (w = 1 ∧ 0 ≤ v ∧ v ≤ 15) ∨ (w = 2 ∧ 0 ≤ v ∧ v ≤ 7)) ∧ h' = h) (fun E h' => E = "java/lang/IllegalArgumentException" ∧ ¬ ((w = 0 ∧ 1 ≤ v ∧ v ≤ 1000) ∨ (w = 1 ∧ 0 ≤ v ∧ v ≤ 15) ∨ (w = 2 ∧ 0 ≤ v ∧ v ≤ 7)) ∧ h' = h)) := by
  refine vX_requireChangeValue ?_
  simp only [rg_and, rg_or]
  rcases st_c3 w with rfl | rfl | rfl | ⟨w0, w1, w2⟩
  · simp (config := { decide := true }) only [st_up_s, st_up_n, ne_eq, not_false_eq_true, not_true_eq_false, true_and, and_true, and_self, or_self, or_false, false_or, or_true, true_or, false_and, and_false, if_false, if_true, true_implies, false_implies, implies_true, exists_eq_left', exists_eq_left, forall_eq, forall_eq', ev_b0, Classical.not_not, reduceIte]
    exact ⟨fun y => ⟨y, rfl⟩, fun y => ⟨rfl, y, rfl⟩⟩
  · simp (config := { decide := true }) only [st_up_s, st_up_n, ne_eq, not_false_eq_true, not_true_eq_false, true_and, and_true, and_self, or_self, or_false, false_or, or_true, true_or, false_and, and_false, if_false, if_true, true_implies, false_implies, implies_true, exists_eq_left', exists_eq_left, forall_eq, forall_eq', ev_b0, Classical.not_not, reduceIte]
    exact ⟨fun y => ⟨y, rfl⟩, fun y => ⟨rfl, y, rfl⟩⟩
  · simp (config := { decide := true }) only [st_up_s, st_up_n, ne_eq, not_false_eq_true, not_true_eq_false, true_and, and_true, and_self, or_self, or_false, false_or, or_true, true_or, false_and, and_false, if_false, if_true, true_implies, false_implies, implies_true, exists_eq_left', exists_eq_left, forall_eq, forall_eq', ev_b0, Classical.not_not, reduceIte]
    exact ⟨fun y => ⟨y, rfl⟩, fun y => ⟨rfl, y, rfl⟩⟩
  · exfalso
    obtain ⟨k, hk, rfl⟩ := nI_of2 (n := 2) (by decide) (Int32.not_lt.mpr hw.1) hw.2
    rcases (show k = 0 ∨ k = 1 ∨ k = 2 by omega) with rfl | rfl | rfl
    · exact w0 rfl
    · exact w1 rfl
    · exact w2 rfl
theorem xp_apply (hb : xb G x ol ll oa la lo ow no nl B h) (hno : no ≤ 20) (hnl : nl ≤ 60) {j : Nat} (hj : j < nl) {w v : Int32} : Mt l G M_X_applyChange [.ref (la j), .int w, .int v] (XH oa la lo no nl A h) (ev_pv (fun h' => h' = XH oa la lo no nl (if w = 0 then st_up (st_up A 17 j v) 18 j (if A 18 j < v then A 18 j else v) else if w = 1 then st_up A 15 j v else st_up A 16 j v) h) (fun _ _ => False)) := by
  have em : (if v < A 18 j then v else A 18 j) = (if A 18 j < v then A 18 j else v) := by
    by_cases c1 : A 18 j < v
    · rw [if_pos c1, if_neg (Int32.not_lt.mpr (Int32.le_of_lt c1))]
    · rw [if_neg c1]
      by_cases c2 : v < A 18 j
      · rw [if_pos c2]
      · rw [if_neg c2]
        exact Int32.le_antisymm (Int32.not_lt.mp c2) (Int32.not_lt.mp c1)
  refine vX_applyChange ?_
  simp (config := { decide := true }) only [hj, xx_0 hb, xx_1 hb, xx_f hb, xo_f hb, xl_f hb, xg_o hb hno, xg_l hb hnl, xn_o hb, xn_l hb, xn_i hb, xg_i hb, xf_o hb, xf_l hb, xf_i hb, xo_0 hb, xo_1 hb, xo_2 hb, xo_3 hb, xo_4 hb, xo_5 hb, xo_6 hb, xo_7 hb, xo_8 hb, xo_9 hb, xl_0 hb, xl_1 hb, xl_2 hb, xl_3 hb, xl_4 hb, xl_5 hb, xl_6 hb, xl_7 hb, xl_8 hb, xl_9 hb, xl_10 hb, ws_5 hb, ws_6 hb, ws_7 hb, ws_8 hb, ws_9 hb, wl_3 hb, wl_4 hb, wl_5 hb, wl_6 hb, wl_7 hb, wl_8 hb, wl_9 hb, wl_10 hb, st_h_n, st_up_s, st_up_n, ne_eq, rg_and, rg_or, Option.some.injEq, Value.int.injEq, Value.ref.injEq, exists_eq_left', exists_eq_left, exists_eq', exists_and_left, and_assoc, true_and, forall_eq, forall_eq', not_false_eq_true, true_implies, and_true, ev_b0, Classical.not_not, st_up_s, st_up_n, ne_eq, not_false_eq_true, not_true_eq_false, true_and, and_true, and_self, or_self, or_false, false_or, or_true, true_or, false_and, and_false, if_false, if_true, true_implies, false_implies, implies_true, exists_eq_left', exists_eq_left, forall_eq, forall_eq', ev_b0, Classical.not_not, reduceIte, em]
  by_cases w0 : w = 0
  · simp (config := { decide := true }) only [w0, st_up_s, st_up_n, ne_eq, not_false_eq_true, not_true_eq_false, true_and, and_true, and_self, or_self, or_false, false_or, or_true, true_or, false_and, and_false, if_false, if_true, true_implies, false_implies, implies_true, exists_eq_left', exists_eq_left, forall_eq, forall_eq', ev_b0, Classical.not_not, reduceIte]
  · by_cases w1 : w = 1
    · simp (config := { decide := true }) only [w1, st_up_s, st_up_n, ne_eq, not_false_eq_true, not_true_eq_false, true_and, and_true, and_self, or_self, or_false, false_or, or_true, true_or, false_and, and_false, if_false, if_true, true_implies, false_implies, implies_true, exists_eq_left', exists_eq_left, forall_eq, forall_eq', ev_b0, Classical.not_not, reduceIte]
    · simp (config := { decide := true }) only [w0, w1, st_up_s, st_up_n, ne_eq, not_false_eq_true, not_true_eq_false, true_and, and_true, and_self, or_self, or_false, false_or, or_true, true_or, false_and, and_false, if_false, if_true, true_implies, false_implies, implies_true, exists_eq_left', exists_eq_left, forall_eq, forall_eq', ev_b0, Classical.not_not, reduceIte]
theorem xp_change (hb : xb G x ol ll oa la lo ow no nl A h) (hI : st_I no nl A) {p w v : Int32} : Mt l G M_X_change [.ref x, .int p, .int w, .int v] (XH oa la lo no nl A h) (xP oa la lo h x_NAS (op_change no nl A p w v)) := by
  have hno := hI.1.1
  have hnl := hI.1.2
  refine vX_change ⟨(xx_f hb).mpr trivial, _, _, xp_lineAt hb hno hnl, fun r h1 e => ?_, fun E h1 e => ?_⟩
  rotate_left
  · obtain ⟨rfl, e1, rfl⟩ := e
    simp (config := { decide := true }) only [e1, op_change, xP, st_up_s, st_up_n, ne_eq, not_false_eq_true, not_true_eq_false, true_and, and_true, and_self, or_self, or_false, false_or, or_true, true_or, false_and, and_false, if_false, if_true, true_implies, false_implies, implies_true, exists_eq_left', exists_eq_left, forall_eq, forall_eq', ev_b0, Classical.not_not, reduceIte]
    all_goals first | exact ⟨rfl, rfl, rfl⟩ | exact ⟨rfl, rfl⟩ | exact ⟨by decide, rfl⟩
  obtain ⟨j, hj, rfl, rfl, rfl, e1, e2⟩ := e
  obtain ⟨i, hi, k2, k1, e13, eh, k3, k4⟩ := st_I_13 hI hj
  simp (config := { decide := true }) only [rg_and, rg_or, e1, e2, eh, op_change, op_change1, st_up_s, st_up_n, ne_eq, not_false_eq_true, not_true_eq_false, true_and, and_true, and_self, or_self, or_false, false_or, or_true, true_or, false_and, and_false, if_false, if_true, true_implies, false_implies, implies_true, exists_eq_left', exists_eq_left, forall_eq, forall_eq', ev_b0, Classical.not_not, reduceIte]
  refine ⟨fun cw => ?_, fun cw => ?_⟩
  rotate_left
  · have c0 : ¬ ((w = 0 ∧ 1 ≤ v ∧ v ≤ 1000) ∨ (w = 1 ∧ 0 ≤ v ∧ v ≤ 15) ∨ (w = 2 ∧ 0 ≤ v ∧ v ≤ 7)) := by
      rintro (⟨rfl, -⟩ | ⟨rfl, -⟩ | ⟨rfl, -⟩) <;> exact cw (by decide)
    simp (config := { decide := true }) only [c0, st_up_s, st_up_n, ne_eq, not_false_eq_true, not_true_eq_false, true_and, and_true, and_self, or_self, or_false, false_or, or_true, true_or, false_and, and_false, if_false, if_true, true_implies, false_implies, implies_true, exists_eq_left', exists_eq_left, forall_eq, forall_eq', ev_b0, Classical.not_not, reduceIte, xP]
    all_goals first | exact ⟨rfl, rfl, rfl⟩ | exact ⟨rfl, rfl⟩ | exact ⟨by decide, rfl⟩
  refine ⟨_, _, xp_rcv cw, fun h' e => ?_, fun E h' e => ?_⟩
  rotate_left
  · obtain ⟨rfl, c0, rfl⟩ := e
    simp (config := { decide := true }) only [c0, st_up_s, st_up_n, ne_eq, not_false_eq_true, not_true_eq_false, true_and, and_true, and_self, or_self, or_false, false_or, or_true, true_or, false_and, and_false, if_false, if_true, true_implies, false_implies, implies_true, exists_eq_left', exists_eq_left, forall_eq, forall_eq', ev_b0, Classical.not_not, reduceIte, xP]
    all_goals first | exact ⟨rfl, rfl, rfl⟩ | exact ⟨rfl, rfl⟩ | exact ⟨by decide, rfl⟩
  obtain ⟨c0, rfl⟩ := e
  simp (config := { decide := true }) only [c0, hj, hi, eh, xx_0 hb, xx_1 hb, xx_f hb, xo_f hb, xl_f hb, xg_o hb hno, xg_l hb hnl, xn_o hb, xn_l hb, xn_i hb, xg_i hb, xf_o hb, xf_l hb, xf_i hb, xo_0 hb, xo_1 hb, xo_2 hb, xo_3 hb, xo_4 hb, xo_5 hb, xo_6 hb, xo_7 hb, xo_8 hb, xo_9 hb, xl_0 hb, xl_1 hb, xl_2 hb, xl_3 hb, xl_4 hb, xl_5 hb, xl_6 hb, xl_7 hb, xl_8 hb, xl_9 hb, xl_10 hb, ws_5 hb, ws_6 hb, ws_7 hb, ws_8 hb, ws_9 hb, wl_3 hb, wl_4 hb, wl_5 hb, wl_6 hb, wl_7 hb, wl_8 hb, wl_9 hb, wl_10 hb, st_h_n, st_up_s, st_up_n, ne_eq, rg_and, rg_or, Option.some.injEq, Value.int.injEq, Value.ref.injEq, exists_eq_left', exists_eq_left, exists_eq', exists_and_left, and_assoc, true_and, forall_eq, forall_eq', not_false_eq_true, true_implies, and_true, ev_b0, Classical.not_not, st_up_s, st_up_n, ne_eq, not_false_eq_true, not_true_eq_false, true_and, and_true, and_self, or_self, or_false, false_or, or_true, true_or, false_and, and_false, if_false, if_true, true_implies, false_implies, implies_true, exists_eq_left', exists_eq_left, forall_eq, forall_eq', ev_b0, Classical.not_not, reduceIte]
  by_cases c1 : A 21 j = 0
  · simp (config := { decide := true }) only [c1, st_up_s, st_up_n, ne_eq, not_false_eq_true, not_true_eq_false, true_and, and_true, and_self, or_self, or_false, false_or, or_true, true_or, false_and, and_false, if_false, if_true, true_implies, false_implies, implies_true, exists_eq_left', exists_eq_left, forall_eq, forall_eq', ev_b0, Classical.not_not, reduceIte, xP]
    all_goals first | exact ⟨rfl, rfl, rfl⟩ | exact ⟨rfl, rfl⟩ | exact ⟨by decide, rfl⟩
  by_cases c2 : A 6 i = 0 ∨ (A 6 i = 1 ∧ w = 2)
  rotate_left
  · have c3 : (w = 2 ∧ 1 < A 6 i) ∨ (¬ w = 2 ∧ 0 < A 6 i) := by
      rcases st_ph hI hi with c6 | c6 | c6 | c6 | c6 | c6 | c6 | c6 <;> rw [c6] at c2 ⊢ <;> by_cases w2 : w = 2 <;> simp (config := { decide := true }) only [w2, st_up_s, st_up_n, ne_eq, not_false_eq_true, not_true_eq_false, true_and, and_true, and_self, or_self, or_false, false_or, or_true, true_or, false_and, and_false, if_false, if_true, true_implies, false_implies, implies_true, exists_eq_left', exists_eq_left, forall_eq, forall_eq', ev_b0, Classical.not_not, reduceIte] at c2 ⊢
    simp (config := { decide := true }) only [c1, c2, c3, st_up_s, st_up_n, ne_eq, not_false_eq_true, not_true_eq_false, true_and, and_true, and_self, or_self, or_false, false_or, or_true, true_or, false_and, and_false, if_false, if_true, true_implies, false_implies, implies_true, exists_eq_left', exists_eq_left, forall_eq, forall_eq', ev_b0, Classical.not_not, reduceIte, xP]
    all_goals first | exact ⟨rfl, rfl, rfl⟩ | exact ⟨rfl, rfl⟩ | exact ⟨by decide, rfl⟩
  have c3 : ¬ ((w = 2 ∧ 1 < A 6 i) ∨ (¬ w = 2 ∧ 0 < A 6 i)) := by
    rcases c2 with c6 | ⟨c6, w2⟩
    · rw [c6]; rintro (⟨-, y⟩ | ⟨-, y⟩) <;> exact absurd y (by decide)
    · rw [c6]; rintro (⟨-, y⟩ | ⟨y, -⟩)
      · exact absurd y (by decide)
      · exact y w2
  simp (config := { decide := true }) only [c1, c2, c3, st_up_s, st_up_n, ne_eq, not_false_eq_true, not_true_eq_false, true_and, and_true, and_self, or_self, or_false, false_or, or_true, true_or, false_and, and_false, if_false, if_true, true_implies, false_implies, implies_true, exists_eq_left', exists_eq_left, forall_eq, forall_eq', ev_b0, Classical.not_not, reduceIte]
  have fin : ∀ (h1 : w = 1 → ¬ ((A 16 j &&& 2) = 0 ∨ A 14 j = v)), ∃ (A_1 : ev_AH → Prop) (X : String → ev_AH → Prop), Mt l G M_X_applyChange [.ref (la j), .int w, .int v] (XH oa la lo no nl A h) (ev_pv A_1 X) ∧ (∀ h15 : ev_AH, A_1 h15 → ∃ v16 : Nat, ev_f h15 (la j) 2 2 = some (.ref v16) ∧ ∃ v17 : Int32, ev_f h15 v16 1 8 = some (.int v17) ∧ ∃ w18 : Value, ev_f h15 v16 1 8 = some w18 ∧ ∀ h19 : ev_AH, h19 = ev_s h15 v16 8 (.int (v17 + 1)) → xP oa la lo h x_NAS (0, 1, no, nl, st_up (if w = 0 then st_up (st_up A 17 j v) 18 j (if A 18 j < v then A 18 j else v) else if w = 1 then st_up A 15 j v else st_up A 16 j v) 8 i (A 8 i + 1)) (.inl (some (.int 1))) h19) ∧ ∀ (E : String) (h9 : ev_AH), X E h9 → xP oa la lo h x_NAS (0, 1, no, nl, st_up (if w = 0 then st_up (st_up A 17 j v) 18 j (if A 18 j < v then A 18 j else v) else if w = 1 then st_up A 15 j v else st_up A 16 j v) 8 i (A 8 i + 1)) (.inr E) h9 := by
    intro _
    refine ⟨_, _, xp_apply hb hno hnl hj, fun h' e => ?_, fun _ _ q => q.elim⟩
    subst e
    rcases st_c3 w with w0 | w1 | w2 | ⟨w0, w1, w2⟩
    · simp (config := { decide := true }) only [w0, hi, hj, eh, xx_0 hb, xx_1 hb, xx_f hb, xo_f hb, xl_f hb, xg_o hb hno, xg_l hb hnl, xn_o hb, xn_l hb, xn_i hb, xg_i hb, xf_o hb, xf_l hb, xf_i hb, xo_0 hb, xo_1 hb, xo_2 hb, xo_3 hb, xo_4 hb, xo_5 hb, xo_6 hb, xo_7 hb, xo_8 hb, xo_9 hb, xl_0 hb, xl_1 hb, xl_2 hb, xl_3 hb, xl_4 hb, xl_5 hb, xl_6 hb, xl_7 hb, xl_8 hb, xl_9 hb, xl_10 hb, ws_5 hb, ws_6 hb, ws_7 hb, ws_8 hb, ws_9 hb, wl_3 hb, wl_4 hb, wl_5 hb, wl_6 hb, wl_7 hb, wl_8 hb, wl_9 hb, wl_10 hb, st_h_n, st_up_s, st_up_n, ne_eq, rg_and, rg_or, Option.some.injEq, Value.int.injEq, Value.ref.injEq, exists_eq_left', exists_eq_left, exists_eq', exists_and_left, and_assoc, true_and, forall_eq, forall_eq', not_false_eq_true, true_implies, and_true, ev_b0, Classical.not_not, st_up_s, st_up_n, ne_eq, not_false_eq_true, not_true_eq_false, true_and, and_true, and_self, or_self, or_false, false_or, or_true, true_or, false_and, and_false, if_false, if_true, true_implies, false_implies, implies_true, exists_eq_left', exists_eq_left, forall_eq, forall_eq', ev_b0, Classical.not_not, reduceIte, xP]
      all_goals first | exact ⟨rfl, rfl, rfl⟩ | exact ⟨rfl, rfl⟩ | exact ⟨by decide, rfl⟩
    · simp (config := { decide := true }) only [w1, hi, hj, eh, xx_0 hb, xx_1 hb, xx_f hb, xo_f hb, xl_f hb, xg_o hb hno, xg_l hb hnl, xn_o hb, xn_l hb, xn_i hb, xg_i hb, xf_o hb, xf_l hb, xf_i hb, xo_0 hb, xo_1 hb, xo_2 hb, xo_3 hb, xo_4 hb, xo_5 hb, xo_6 hb, xo_7 hb, xo_8 hb, xo_9 hb, xl_0 hb, xl_1 hb, xl_2 hb, xl_3 hb, xl_4 hb, xl_5 hb, xl_6 hb, xl_7 hb, xl_8 hb, xl_9 hb, xl_10 hb, ws_5 hb, ws_6 hb, ws_7 hb, ws_8 hb, ws_9 hb, wl_3 hb, wl_4 hb, wl_5 hb, wl_6 hb, wl_7 hb, wl_8 hb, wl_9 hb, wl_10 hb, st_h_n, st_up_s, st_up_n, ne_eq, rg_and, rg_or, Option.some.injEq, Value.int.injEq, Value.ref.injEq, exists_eq_left', exists_eq_left, exists_eq', exists_and_left, and_assoc, true_and, forall_eq, forall_eq', not_false_eq_true, true_implies, and_true, ev_b0, Classical.not_not, st_up_s, st_up_n, ne_eq, not_false_eq_true, not_true_eq_false, true_and, and_true, and_self, or_self, or_false, false_or, or_true, true_or, false_and, and_false, if_false, if_true, true_implies, false_implies, implies_true, exists_eq_left', exists_eq_left, forall_eq, forall_eq', ev_b0, Classical.not_not, reduceIte, xP]
      all_goals first | exact ⟨rfl, rfl, rfl⟩ | exact ⟨rfl, rfl⟩ | exact ⟨by decide, rfl⟩
    · simp (config := { decide := true }) only [w2, hi, hj, eh, xx_0 hb, xx_1 hb, xx_f hb, xo_f hb, xl_f hb, xg_o hb hno, xg_l hb hnl, xn_o hb, xn_l hb, xn_i hb, xg_i hb, xf_o hb, xf_l hb, xf_i hb, xo_0 hb, xo_1 hb, xo_2 hb, xo_3 hb, xo_4 hb, xo_5 hb, xo_6 hb, xo_7 hb, xo_8 hb, xo_9 hb, xl_0 hb, xl_1 hb, xl_2 hb, xl_3 hb, xl_4 hb, xl_5 hb, xl_6 hb, xl_7 hb, xl_8 hb, xl_9 hb, xl_10 hb, ws_5 hb, ws_6 hb, ws_7 hb, ws_8 hb, ws_9 hb, wl_3 hb, wl_4 hb, wl_5 hb, wl_6 hb, wl_7 hb, wl_8 hb, wl_9 hb, wl_10 hb, st_h_n, st_up_s, st_up_n, ne_eq, rg_and, rg_or, Option.some.injEq, Value.int.injEq, Value.ref.injEq, exists_eq_left', exists_eq_left, exists_eq', exists_and_left, and_assoc, true_and, forall_eq, forall_eq', not_false_eq_true, true_implies, and_true, ev_b0, Classical.not_not, st_up_s, st_up_n, ne_eq, not_false_eq_true, not_true_eq_false, true_and, and_true, and_self, or_self, or_false, false_or, or_true, true_or, false_and, and_false, if_false, if_true, true_implies, false_implies, implies_true, exists_eq_left', exists_eq_left, forall_eq, forall_eq', ev_b0, Classical.not_not, reduceIte, xP]
      all_goals first | exact ⟨rfl, rfl, rfl⟩ | exact ⟨rfl, rfl⟩ | exact ⟨by decide, rfl⟩
    · simp (config := { decide := true }) only [w0, w1, hi, hj, eh, xx_0 hb, xx_1 hb, xx_f hb, xo_f hb, xl_f hb, xg_o hb hno, xg_l hb hnl, xn_o hb, xn_l hb, xn_i hb, xg_i hb, xf_o hb, xf_l hb, xf_i hb, xo_0 hb, xo_1 hb, xo_2 hb, xo_3 hb, xo_4 hb, xo_5 hb, xo_6 hb, xo_7 hb, xo_8 hb, xo_9 hb, xl_0 hb, xl_1 hb, xl_2 hb, xl_3 hb, xl_4 hb, xl_5 hb, xl_6 hb, xl_7 hb, xl_8 hb, xl_9 hb, xl_10 hb, ws_5 hb, ws_6 hb, ws_7 hb, ws_8 hb, ws_9 hb, wl_3 hb, wl_4 hb, wl_5 hb, wl_6 hb, wl_7 hb, wl_8 hb, wl_9 hb, wl_10 hb, st_h_n, st_up_s, st_up_n, ne_eq, rg_and, rg_or, Option.some.injEq, Value.int.injEq, Value.ref.injEq, exists_eq_left', exists_eq_left, exists_eq', exists_and_left, and_assoc, true_and, forall_eq, forall_eq', not_false_eq_true, true_implies, and_true, ev_b0, Classical.not_not, st_up_s, st_up_n, ne_eq, not_false_eq_true, not_true_eq_false, true_and, and_true, and_self, or_self, or_false, false_or, or_true, true_or, false_and, and_false, if_false, if_true, true_implies, false_implies, implies_true, exists_eq_left', exists_eq_left, forall_eq, forall_eq', ev_b0, Classical.not_not, reduceIte, xP]
      all_goals first | exact ⟨rfl, rfl, rfl⟩ | exact ⟨rfl, rfl⟩ | exact ⟨by decide, rfl⟩
  by_cases w1 : w = 1
  rotate_left
  · have e0 : ¬ (w = 1 ∧ ((A 16 j &&& 2) = 0 ∨ A 14 j = v)) := fun y => w1 y.1
    have := fin (fun y => absurd y w1)
    simp (config := { decide := true }) only [w1, st_up_s, st_up_n, ne_eq, not_false_eq_true, not_true_eq_false, true_and, and_true, and_self, or_self, or_false, false_or, or_true, true_or, false_and, and_false, if_false, if_true, true_implies, false_implies, implies_true, exists_eq_left', exists_eq_left, forall_eq, forall_eq', ev_b0, Classical.not_not, reduceIte] at this ⊢
    exact this
  by_cases c4 : (A 16 j &&& 2) = 0
  · simp (config := { decide := true }) only [w1, c4, st_up_s, st_up_n, ne_eq, not_false_eq_true, not_true_eq_false, true_and, and_true, and_self, or_self, or_false, false_or, or_true, true_or, false_and, and_false, if_false, if_true, true_implies, false_implies, implies_true, exists_eq_left', exists_eq_left, forall_eq, forall_eq', ev_b0, Classical.not_not, reduceIte, xP]
    all_goals first | exact ⟨rfl, rfl, rfl⟩ | exact ⟨rfl, rfl⟩ | exact ⟨by decide, rfl⟩
  by_cases c5 : v = A 14 j
  · have c5' : A 14 j = v := c5.symm
    simp (config := { decide := true }) only [w1, c4, c5, st_up_s, st_up_n, ne_eq, not_false_eq_true, not_true_eq_false, true_and, and_true, and_self, or_self, or_false, false_or, or_true, true_or, false_and, and_false, if_false, if_true, true_implies, false_implies, implies_true, exists_eq_left', exists_eq_left, forall_eq, forall_eq', ev_b0, Classical.not_not, reduceIte, xP]
    all_goals first | exact ⟨rfl, rfl, rfl⟩ | exact ⟨rfl, rfl⟩ | exact ⟨by decide, rfl⟩
  have c5' : ¬ A 14 j = v := fun y => c5 y.symm
  have := fin (fun _ y => y.elim c4 c5')
  simp (config := { decide := true }) only [w1, c4, c5, c5', st_up_s, st_up_n, ne_eq, not_false_eq_true, not_true_eq_false, true_and, and_true, and_self, or_self, or_false, false_or, or_true, true_or, false_and, and_false, if_false, if_true, true_implies, false_implies, implies_true, exists_eq_left', exists_eq_left, forall_eq, forall_eq', ev_b0, Classical.not_not, reduceIte] at this ⊢
  exact this
theorem xo_miss_14 (hb : xb G x ol ll oa la lo ow no nl A h) (hno : no ≤ 20) (hnl : nl ≤ 60) {i s : Nat} (hi : i < no) (hs : sx_ok A i s nl) : ∀ (d k : Nat) (a : Int32), k + d = s → Ev l G M_O_missing 14 [(0, .ref (oa i)), (1, .int a), (2, .int (nI k))] [] (XH oa la lo no nl A h) 0 0 (ev_fin G M_O_missing (ev_pi (fun q h' => q = st_sum (fun k => st_short A (st_l A i k)) d k a ∧ h' = XH oa la lo no nl A h) (fun _ _ => False))) := by
  have es := st_s_of hs.1.2.2.1 hs.1.2.1
  have h8 := hs.1.2.1
  intro d
  induction d with
  | zero =>
    intro k a e
    obtain rfl : k = s := by omega
    refine vO_missing_14 ?_
    simp (config := { decide := true }) only [hi, es, Int32.le_refl, xx_0 hb, xx_1 hb, xx_f hb, xo_f hb, xl_f hb, xg_o hb hno, xg_l hb hnl, xn_o hb, xn_l hb, xn_i hb, xg_i hb, xf_o hb, xf_l hb, xf_i hb, xo_0 hb, xo_1 hb, xo_2 hb, xo_3 hb, xo_4 hb, xo_5 hb, xo_6 hb, xo_7 hb, xo_8 hb, xo_9 hb, xl_0 hb, xl_1 hb, xl_2 hb, xl_3 hb, xl_4 hb, xl_5 hb, xl_6 hb, xl_7 hb, xl_8 hb, xl_9 hb, xl_10 hb, ws_5 hb, ws_6 hb, ws_7 hb, ws_8 hb, ws_9 hb, wl_3 hb, wl_4 hb, wl_5 hb, wl_6 hb, wl_7 hb, wl_8 hb, wl_9 hb, wl_10 hb, st_h_n, st_up_s, st_up_n, ne_eq, rg_and, rg_or, Option.some.injEq, Value.int.injEq, Value.ref.injEq, exists_eq_left', exists_eq_left, exists_eq', exists_and_left, and_assoc, true_and, forall_eq, forall_eq', not_false_eq_true, true_implies, and_true, ev_b0, Classical.not_not, st_up_s, st_up_n, ne_eq, not_false_eq_true, not_true_eq_false, true_and, and_true, and_self, or_self, or_false, false_or, or_true, true_or, false_and, and_false, if_false, if_true, true_implies, false_implies, implies_true, exists_eq_left', exists_eq_left, forall_eq, forall_eq', ev_b0, Classical.not_not, reduceIte]
    exact ⟨rfl, rfl⟩
  | succ d ih =>
    intro k a e
    have hk : ¬ nI s ≤ nI k := nI_ge (by omega) (by omega)
    have hk' : k < s := by omega
    have hj := hs.2 k hk'
    refine vO_missing_14 ?_
    simp (config := { decide := true }) only [hi, es, hk, hk', h8, hj, nI_1, xx_0 hb, xx_1 hb, xx_f hb, xo_f hb, xl_f hb, xg_o hb hno, xg_l hb hnl, xn_o hb, xn_l hb, xn_i hb, xg_i hb, xf_o hb, xf_l hb, xf_i hb, xo_0 hb, xo_1 hb, xo_2 hb, xo_3 hb, xo_4 hb, xo_5 hb, xo_6 hb, xo_7 hb, xo_8 hb, xo_9 hb, xl_0 hb, xl_1 hb, xl_2 hb, xl_3 hb, xl_4 hb, xl_5 hb, xl_6 hb, xl_7 hb, xl_8 hb, xl_9 hb, xl_10 hb, ws_5 hb, ws_6 hb, ws_7 hb, ws_8 hb, ws_9 hb, wl_3 hb, wl_4 hb, wl_5 hb, wl_6 hb, wl_7 hb, wl_8 hb, wl_9 hb, wl_10 hb, st_h_n, st_up_s, st_up_n, ne_eq, rg_and, rg_or, Option.some.injEq, Value.int.injEq, Value.ref.injEq, exists_eq_left', exists_eq_left, exists_eq', exists_and_left, and_assoc, true_and, forall_eq, forall_eq', not_false_eq_true, true_implies, and_true, ev_b0, Classical.not_not, st_up_s, st_up_n, ne_eq, not_false_eq_true, not_true_eq_false, true_and, and_true, and_self, or_self, or_false, false_or, or_true, true_or, false_and, and_false, if_false, if_true, true_implies, false_implies, implies_true, exists_eq_left', exists_eq_left, forall_eq, forall_eq', ev_b0, Classical.not_not, reduceIte]
    rw [st_sum]
    by_cases c1 : A 21 (st_l A i k) = 0
    · have e0 : st_short A (st_l A i k) = 0 := by unfold st_short; simp [c1]
      rw [e0, Int32.add_zero]
      simp (config := { decide := true }) only [c1, st_up_s, st_up_n, ne_eq, not_false_eq_true, not_true_eq_false, true_and, and_true, and_self, or_self, or_false, false_or, or_true, true_or, false_and, and_false, if_false, if_true, true_implies, false_implies, implies_true, exists_eq_left', exists_eq_left, forall_eq, forall_eq', ev_b0, Classical.not_not, reduceIte]
      exact ih (k + 1) a (by omega)
    · have e0 : st_short A (st_l A i k) = A 17 (st_l A i k) - A 20 (st_l A i k) := by unfold st_short; simp [c1]
      rw [e0]
      simp (config := { decide := true }) only [c1, st_up_s, st_up_n, ne_eq, not_false_eq_true, not_true_eq_false, true_and, and_true, and_self, or_self, or_false, false_or, or_true, true_or, false_and, and_false, if_false, if_true, true_implies, false_implies, implies_true, exists_eq_left', exists_eq_left, forall_eq, forall_eq', ev_b0, Classical.not_not, reduceIte]
      exact ih (k + 1) _ (by omega)
theorem st_sum_0 {f : Nat → Int32} : ∀ (d k : Nat), (∀ k', k ≤ k' → k' < k + d → f k' = 0) → ∀ a, st_sum f d k a = a := by
  intro d
  induction d with
  | zero => intro k _ a; rfl
  | succ d ih =>
    intro k hk a
    rw [st_sum, hk k (Nat.le_refl _) (by omega), Int32.add_zero]
    exact ih (k + 1) (fun k' z1 z2 => hk k' (by omega) (by omega)) a
theorem xp_missing (hb : xb G x ol ll oa la lo ow no nl A h) (hI : st_I no nl A) {i : Nat} (hi : i < no) : Mt l G M_O_missing [.ref (oa i)] (XH oa la lo no nl A h) (ev_pi (fun q h' => q = (if A 6 i = 4 ∨ A 6 i = 5 then st_sum (fun k => st_short A (st_l A i k)) (st_s A i) 0 0 else 0) ∧ h' = XH oa la lo no nl A h) (fun _ _ => False)) := by
  have hno := hI.1.1
  have hnl := hI.1.2
  obtain ⟨s, hs⟩ := sx_of hI hi
  have es := st_s_of hs.1.2.2.1 hs.1.2.1
  have T := xo_miss_14 (l := l) hb hno hnl hi hs s 0 0 (by omega)
  refine vO_missing ?_
  simp (config := { decide := true }) only [hi, es, xx_0 hb, xx_1 hb, xx_f hb, xo_f hb, xl_f hb, xg_o hb hno, xg_l hb hnl, xn_o hb, xn_l hb, xn_i hb, xg_i hb, xf_o hb, xf_l hb, xf_i hb, xo_0 hb, xo_1 hb, xo_2 hb, xo_3 hb, xo_4 hb, xo_5 hb, xo_6 hb, xo_7 hb, xo_8 hb, xo_9 hb, xl_0 hb, xl_1 hb, xl_2 hb, xl_3 hb, xl_4 hb, xl_5 hb, xl_6 hb, xl_7 hb, xl_8 hb, xl_9 hb, xl_10 hb, ws_5 hb, ws_6 hb, ws_7 hb, ws_8 hb, ws_9 hb, wl_3 hb, wl_4 hb, wl_5 hb, wl_6 hb, wl_7 hb, wl_8 hb, wl_9 hb, wl_10 hb, st_h_n, st_up_s, st_up_n, ne_eq, rg_and, rg_or, Option.some.injEq, Value.int.injEq, Value.ref.injEq, exists_eq_left', exists_eq_left, exists_eq', exists_and_left, and_assoc, true_and, forall_eq, forall_eq', not_false_eq_true, true_implies, and_true, ev_b0, Classical.not_not, st_up_s, st_up_n, ne_eq, not_false_eq_true, not_true_eq_false, true_and, and_true, and_self, or_self, or_false, false_or, or_true, true_or, false_and, and_false, if_false, if_true, true_implies, false_implies, implies_true, exists_eq_left', exists_eq_left, forall_eq, forall_eq', ev_b0, Classical.not_not, reduceIte]
  rcases st_ph hI hi with c6 | c6 | c6 | c6 | c6 | c6 | c6 | c6
  · simp (config := { decide := true }) only [c6, st_up_s, st_up_n, ne_eq, not_false_eq_true, not_true_eq_false, true_and, and_true, and_self, or_self, or_false, false_or, or_true, true_or, false_and, and_false, if_false, if_true, true_implies, false_implies, implies_true, exists_eq_left', exists_eq_left, forall_eq, forall_eq', ev_b0, Classical.not_not, reduceIte]
    all_goals first | exact ⟨rfl, rfl⟩ | exact ⟨rfl, fun _ => rfl⟩ | exact ⟨rfl, rfl, rfl⟩
  · simp (config := { decide := true }) only [c6, st_up_s, st_up_n, ne_eq, not_false_eq_true, not_true_eq_false, true_and, and_true, and_self, or_self, or_false, false_or, or_true, true_or, false_and, and_false, if_false, if_true, true_implies, false_implies, implies_true, exists_eq_left', exists_eq_left, forall_eq, forall_eq', ev_b0, Classical.not_not, reduceIte]
    all_goals first | exact ⟨rfl, rfl⟩ | exact ⟨rfl, fun _ => rfl⟩ | exact ⟨rfl, rfl, rfl⟩
  · simp (config := { decide := true }) only [c6, st_up_s, st_up_n, ne_eq, not_false_eq_true, not_true_eq_false, true_and, and_true, and_self, or_self, or_false, false_or, or_true, true_or, false_and, and_false, if_false, if_true, true_implies, false_implies, implies_true, exists_eq_left', exists_eq_left, forall_eq, forall_eq', ev_b0, Classical.not_not, reduceIte]
    all_goals first | exact ⟨rfl, rfl⟩ | exact ⟨rfl, fun _ => rfl⟩ | exact ⟨rfl, rfl, rfl⟩
  · simp (config := { decide := true }) only [c6, st_up_s, st_up_n, ne_eq, not_false_eq_true, not_true_eq_false, true_and, and_true, and_self, or_self, or_false, false_or, or_true, true_or, false_and, and_false, if_false, if_true, true_implies, false_implies, implies_true, exists_eq_left', exists_eq_left, forall_eq, forall_eq', ev_b0, Classical.not_not, reduceIte]
    all_goals first | exact ⟨rfl, rfl⟩ | exact ⟨rfl, fun _ => rfl⟩ | exact ⟨rfl, rfl, rfl⟩
  · simp (config := { decide := true }) only [c6, st_up_s, st_up_n, ne_eq, not_false_eq_true, not_true_eq_false, true_and, and_true, and_self, or_self, or_false, false_or, or_true, true_or, false_and, and_false, if_false, if_true, true_implies, false_implies, implies_true, exists_eq_left', exists_eq_left, forall_eq, forall_eq', ev_b0, Classical.not_not, reduceIte]
    exact T
  · simp (config := { decide := true }) only [c6, st_up_s, st_up_n, ne_eq, not_false_eq_true, not_true_eq_false, true_and, and_true, and_self, or_self, or_false, false_or, or_true, true_or, false_and, and_false, if_false, if_true, true_implies, false_implies, implies_true, exists_eq_left', exists_eq_left, forall_eq, forall_eq', ev_b0, Classical.not_not, reduceIte]
    exact T
  · simp (config := { decide := true }) only [c6, st_up_s, st_up_n, ne_eq, not_false_eq_true, not_true_eq_false, true_and, and_true, and_self, or_self, or_false, false_or, or_true, true_or, false_and, and_false, if_false, if_true, true_implies, false_implies, implies_true, exists_eq_left', exists_eq_left, forall_eq, forall_eq', ev_b0, Classical.not_not, reduceIte]
    rw [st_sum_0 s 0 ?_] at T
    · exact T
    · intro k _ hk
      obtain ⟨s', hs', -, e10, -, z, -⟩ := st_I_10 hI hi
      obtain rfl : s' = s := by rw [← es]; exact (st_s_of e10 hs').symm
      obtain ⟨j, z1, z2, z3, z4, z5⟩ := z k (by omega)
      rw [z5]
      obtain ⟨-, -, -, -, -, q, -⟩ := hI
      have := (q j z1 i 6 hi z4 (by decide) c6).2.2 rfl
      unfold st_short
      rw [if_neg (fun y => y this)]
  · simp (config := { decide := true }) only [c6, st_up_s, st_up_n, ne_eq, not_false_eq_true, not_true_eq_false, true_and, and_true, and_self, or_self, or_false, false_or, or_true, true_or, false_and, and_false, if_false, if_true, true_implies, false_implies, implies_true, exists_eq_left', exists_eq_left, forall_eq, forall_eq', ev_b0, Classical.not_not, reduceIte]
    have s0 : s = 0 := by
      obtain ⟨-, -, -, q, -⟩ := hI
      obtain ⟨qq, b, q1, q2, -, -, q3⟩ := q i hi
      have : qq = 7 := by
        rw [c6] at q2
        exact ((nI_eq (a := 7) (b := qq) (by omega) (by omega)).mp q2).symm
      have e0 := q3 this
      rw [hs.1.2.2.1] at e0
      exact (nI_eq (a := s) (b := 0) (by have := hs.1.2.1; omega) (by omega)).mp e0
    rw [s0] at T
    exact T
theorem xp_told (hb : xb G x ol ll oa la lo ow no nl A h) (hI : st_I no nl A) {p w : Int32} : Mt l G M_X_told [.ref x, .int p, .int w] (XH oa la lo no nl A h) (xP oa la lo h x_NA (op_told no nl A p w)) := by
  have hno := hI.1.1
  have hnl := hI.1.2
  refine vX_told ⟨(xx_f hb).mpr trivial, _, _, xp_orderAt hb hno hnl, fun r h1 e => ?_, fun E h1 e => ?_⟩
  rotate_left
  · obtain ⟨rfl, e1, rfl⟩ := e
    simp (config := { decide := true }) only [e1, op_told, xP, st_up_s, st_up_n, ne_eq, not_false_eq_true, not_true_eq_false, true_and, and_true, and_self, or_self, or_false, false_or, or_true, true_or, false_and, and_false, if_false, if_true, true_implies, false_implies, implies_true, exists_eq_left', exists_eq_left, forall_eq, forall_eq', ev_b0, Classical.not_not, reduceIte]
    all_goals first | exact ⟨rfl, rfl, rfl⟩ | exact ⟨rfl, rfl⟩ | exact ⟨by decide, rfl⟩
  obtain ⟨i, hi, rfl, rfl, rfl, e1, e2⟩ := e
  obtain ⟨s, hs⟩ := sx_of hI hi
  have es := st_s_of hs.1.2.2.1 hs.1.2.1
  have e10 := hs.1.2.2.1
  simp (config := { decide := true }) only [hi, es, xx_0 hb, xx_1 hb, xx_f hb, xo_f hb, xl_f hb, xg_o hb hno, xg_l hb hnl, xn_o hb, xn_l hb, xn_i hb, xg_i hb, xf_o hb, xf_l hb, xf_i hb, xo_0 hb, xo_1 hb, xo_2 hb, xo_3 hb, xo_4 hb, xo_5 hb, xo_6 hb, xo_7 hb, xo_8 hb, xo_9 hb, xl_0 hb, xl_1 hb, xl_2 hb, xl_3 hb, xl_4 hb, xl_5 hb, xl_6 hb, xl_7 hb, xl_8 hb, xl_9 hb, xl_10 hb, ws_5 hb, ws_6 hb, ws_7 hb, ws_8 hb, ws_9 hb, wl_3 hb, wl_4 hb, wl_5 hb, wl_6 hb, wl_7 hb, wl_8 hb, wl_9 hb, wl_10 hb, st_h_n, st_up_s, st_up_n, ne_eq, rg_and, rg_or, Option.some.injEq, Value.int.injEq, Value.ref.injEq, exists_eq_left', exists_eq_left, exists_eq', exists_and_left, and_assoc, true_and, forall_eq, forall_eq', not_false_eq_true, true_implies, and_true, ev_b0, Classical.not_not, st_up_s, st_up_n, ne_eq, not_false_eq_true, not_true_eq_false, true_and, and_true, and_self, or_self, or_false, false_or, or_true, true_or, false_and, and_false, if_false, if_true, true_implies, false_implies, implies_true, exists_eq_left', exists_eq_left, forall_eq, forall_eq', ev_b0, Classical.not_not, reduceIte]
  simp (config := { decide := true }) only [e1, e2, op_told, op_told1, st_up_s, st_up_n, ne_eq, not_false_eq_true, not_true_eq_false, true_and, and_true, and_self, or_self, or_false, false_or, or_true, true_or, false_and, and_false, if_false, if_true, true_implies, false_implies, implies_true, exists_eq_left', exists_eq_left, forall_eq, forall_eq', ev_b0, Classical.not_not, reduceIte]
  by_cases c1 : 0 ≤ w ∧ w ≤ 9
  rotate_left
  · have n0 : ∀ k : Nat, k ≤ 9 → ¬ w = nI k := fun k hk y => c1 (by rw [y]; exact ⟨nI_pos' (by omega), nI_le (a := k) (b := 9) hk (by omega)⟩)
    have w0 : ¬ w = 0 := n0 0 (by decide)
    have w1 : ¬ w = 1 := n0 1 (by decide)
    have w2 : ¬ w = 2 := n0 2 (by decide)
    have w3 : ¬ w = 3 := n0 3 (by decide)
    have w4 : ¬ w = 4 := n0 4 (by decide)
    have w5 : ¬ w = 5 := n0 5 (by decide)
    have w6 : ¬ w = 6 := n0 6 (by decide)
    have w7 : ¬ w = 7 := n0 7 (by decide)
    have w8 : ¬ w = 8 := n0 8 (by decide)
    have w9 : ¬ w = 9 := n0 9 (by decide)
    simp (config := { decide := true }) only [c1, w0, w1, w2, w3, w4, w5, w6, w7, w8, w9, st_up_s, st_up_n, ne_eq, not_false_eq_true, not_true_eq_false, true_and, and_true, and_self, or_self, or_false, false_or, or_true, true_or, false_and, and_false, if_false, if_true, true_implies, false_implies, implies_true, exists_eq_left', exists_eq_left, forall_eq, forall_eq', ev_b0, Classical.not_not, reduceIte, xP]
    all_goals first | exact ⟨rfl, rfl, rfl⟩ | exact ⟨rfl, rfl⟩ | exact ⟨by decide, rfl⟩
  obtain ⟨k, hk, rfl⟩ := nI_of2 (n := 9) (by decide) (Int32.not_lt.mpr c1.1) c1.2
  rcases (show k = 0 ∨ k = 1 ∨ k = 2 ∨ k = 3 ∨ k = 4 ∨ k = 5 ∨ k = 6 ∨ k = 7 ∨ k = 8 ∨ k = 9 by omega) with rfl | rfl | rfl | rfl | rfl | rfl | rfl | rfl | rfl | rfl
  · rw [show nI 0 = 0 from rfl]
    simp (config := { decide := true }) only [e10, st_up_s, st_up_n, ne_eq, not_false_eq_true, not_true_eq_false, true_and, and_true, and_self, or_self, or_false, false_or, or_true, true_or, false_and, and_false, if_false, if_true, true_implies, false_implies, implies_true, exists_eq_left', exists_eq_left, forall_eq, forall_eq', ev_b0, Classical.not_not, reduceIte, xP]
    all_goals first | exact ⟨rfl, rfl, rfl⟩ | exact ⟨rfl, rfl⟩ | exact ⟨by decide, rfl⟩
  · rw [show nI 1 = 1 from rfl]
    simp (config := { decide := true }) only [e10, st_up_s, st_up_n, ne_eq, not_false_eq_true, not_true_eq_false, true_and, and_true, and_self, or_self, or_false, false_or, or_true, true_or, false_and, and_false, if_false, if_true, true_implies, false_implies, implies_true, exists_eq_left', exists_eq_left, forall_eq, forall_eq', ev_b0, Classical.not_not, reduceIte, xP]
    all_goals first | exact ⟨rfl, rfl, rfl⟩ | exact ⟨rfl, rfl⟩ | exact ⟨by decide, rfl⟩
  · rw [show nI 2 = 2 from rfl]
    simp (config := { decide := true }) only [e10, st_up_s, st_up_n, ne_eq, not_false_eq_true, not_true_eq_false, true_and, and_true, and_self, or_self, or_false, false_or, or_true, true_or, false_and, and_false, if_false, if_true, true_implies, false_implies, implies_true, exists_eq_left', exists_eq_left, forall_eq, forall_eq', ev_b0, Classical.not_not, reduceIte, xP]
    all_goals first | exact ⟨rfl, rfl, rfl⟩ | exact ⟨rfl, rfl⟩ | exact ⟨by decide, rfl⟩
  · rw [show nI 3 = 3 from rfl]
    simp (config := { decide := true }) only [e10, st_up_s, st_up_n, ne_eq, not_false_eq_true, not_true_eq_false, true_and, and_true, and_self, or_self, or_false, false_or, or_true, true_or, false_and, and_false, if_false, if_true, true_implies, false_implies, implies_true, exists_eq_left', exists_eq_left, forall_eq, forall_eq', ev_b0, Classical.not_not, reduceIte, xP]
    all_goals first | exact ⟨rfl, rfl, rfl⟩ | exact ⟨rfl, rfl⟩ | exact ⟨by decide, rfl⟩
  · rw [show nI 4 = 4 from rfl]
    simp (config := { decide := true }) only [e10, st_up_s, st_up_n, ne_eq, not_false_eq_true, not_true_eq_false, true_and, and_true, and_self, or_self, or_false, false_or, or_true, true_or, false_and, and_false, if_false, if_true, true_implies, false_implies, implies_true, exists_eq_left', exists_eq_left, forall_eq, forall_eq', ev_b0, Classical.not_not, reduceIte, xP]
    all_goals first | exact ⟨rfl, rfl, rfl⟩ | exact ⟨rfl, rfl⟩ | exact ⟨by decide, rfl⟩
  · rw [show nI 5 = 5 from rfl]
    simp (config := { decide := true }) only [e10, st_up_s, st_up_n, ne_eq, not_false_eq_true, not_true_eq_false, true_and, and_true, and_self, or_self, or_false, false_or, or_true, true_or, false_and, and_false, if_false, if_true, true_implies, false_implies, implies_true, exists_eq_left', exists_eq_left, forall_eq, forall_eq', ev_b0, Classical.not_not, reduceIte, xP]
    all_goals first | exact ⟨rfl, rfl, rfl⟩ | exact ⟨rfl, rfl⟩ | exact ⟨by decide, rfl⟩
  · rw [show nI 6 = 6 from rfl]
    simp (config := { decide := true }) only [e10, st_up_s, st_up_n, ne_eq, not_false_eq_true, not_true_eq_false, true_and, and_true, and_self, or_self, or_false, false_or, or_true, true_or, false_and, and_false, if_false, if_true, true_implies, false_implies, implies_true, exists_eq_left', exists_eq_left, forall_eq, forall_eq', ev_b0, Classical.not_not, reduceIte, xP]
    all_goals first | exact ⟨rfl, rfl, rfl⟩ | exact ⟨rfl, rfl⟩ | exact ⟨by decide, rfl⟩
  · rw [show nI 7 = 7 from rfl]
    simp (config := { decide := true }) only [e10, st_up_s, st_up_n, ne_eq, not_false_eq_true, not_true_eq_false, true_and, and_true, and_self, or_self, or_false, false_or, or_true, true_or, false_and, and_false, if_false, if_true, true_implies, false_implies, implies_true, exists_eq_left', exists_eq_left, forall_eq, forall_eq', ev_b0, Classical.not_not, reduceIte, xP]
    all_goals first | exact ⟨rfl, rfl, rfl⟩ | exact ⟨rfl, rfl⟩ | exact ⟨by decide, rfl⟩
  · rw [show nI 8 = 8 from rfl]
    simp (config := { decide := true }) only [e10, st_up_s, st_up_n, ne_eq, not_false_eq_true, not_true_eq_false, true_and, and_true, and_self, or_self, or_false, false_or, or_true, true_or, false_and, and_false, if_false, if_true, true_implies, false_implies, implies_true, exists_eq_left', exists_eq_left, forall_eq, forall_eq', ev_b0, Classical.not_not, reduceIte, xP]
    all_goals first | exact ⟨rfl, rfl, rfl⟩ | exact ⟨rfl, rfl⟩ | exact ⟨by decide, rfl⟩
  · rw [show nI 9 = 9 from rfl]
    simp (config := { decide := true }) only [e10, st_up_s, st_up_n, ne_eq, not_false_eq_true, not_true_eq_false, true_and, and_true, and_self, or_self, or_false, false_or, or_true, true_or, false_and, and_false, if_false, if_true, true_implies, false_implies, implies_true, exists_eq_left', exists_eq_left, forall_eq, forall_eq', ev_b0, Classical.not_not, reduceIte]
    refine ⟨_, _, xp_missing hb hI hi, fun q h' e => ?_, fun _ _ q => q.elim⟩
    obtain ⟨rfl, rfl⟩ := e
    rw [es]
    exact ⟨rfl, rfl, rfl⟩
end X4
