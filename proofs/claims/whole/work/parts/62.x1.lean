/-! THE CLASS's methods do the operations: helpers, calls that make nothing -/
theorem rg_or {n a b : Int32} : (n < a ∨ b < n) ↔ ¬ (a ≤ n ∧ n ≤ b) := by
  rw [Classical.not_and_iff_not_or_not, Int32.not_le, Int32.not_le]
theorem rg_and {n a b : Int32} : (¬ n < a ∧ ¬ b < n) ↔ (a ≤ n ∧ n ≤ b) := by rw [Int32.not_lt, Int32.not_lt]
theorem st_ph {no nl : Nat} {A : st_A} (hI : st_I no nl A) {i : Nat} (hi : i < no) : A 6 i = 0 ∨ A 6 i = 1 ∨ A 6 i = 2 ∨ A 6 i = 3 ∨ A 6 i = 4 ∨ A 6 i = 5 ∨ A 6 i = 6 ∨ A 6 i = 7 := by
  obtain ⟨-, -, -, z, -⟩ := hI
  obtain ⟨q, b, hq, e, -⟩ := z i hi
  rw [e]
  rcases (show q = 0 ∨ q = 1 ∨ q = 2 ∨ q = 3 ∨ q = 4 ∨ q = 5 ∨ q = 6 ∨ q = 7 by omega) with rfl | rfl | rfl | rfl | rfl | rfl | rfl | rfl
  · exact Or.inl rfl
  · exact Or.inr (Or.inl rfl)
  · exact Or.inr (Or.inr (Or.inl rfl))
  · exact Or.inr (Or.inr (Or.inr (Or.inl rfl)))
  · exact Or.inr (Or.inr (Or.inr (Or.inr (Or.inl rfl))))
  · exact Or.inr (Or.inr (Or.inr (Or.inr (Or.inr (Or.inl rfl)))))
  · exact Or.inr (Or.inr (Or.inr (Or.inr (Or.inr (Or.inr (Or.inl rfl))))))
  · exact Or.inr (Or.inr (Or.inr (Or.inr (Or.inr (Or.inr (Or.inr rfl))))))
def xP (oa la lo : Nat → Nat) (h : ev_AH) (cs : List (String × Int32)) (o : st_O) : ev_Post := ev_pi (fun r h' => o.1 = 0 ∧ r = o.2.1 ∧ h' = XH oa la lo o.2.2.1 o.2.2.2.1 o.2.2.2.2 h) (fun E h' => (E, o.1) ∈ cs ∧ h' = XH oa la lo o.2.2.1 o.2.2.2.1 o.2.2.2.2 h)
abbrev x_NAS : List (String × Int32) := [("java/util/NoSuchElementException", 1), ("java/lang/IllegalArgumentException", 2), ("java/lang/IllegalStateException", 3)]
abbrev x_NA : List (String × Int32) := [("java/util/NoSuchElementException", 1), ("java/lang/IllegalArgumentException", 2)]
abbrev x_NS : List (String × Int32) := [("java/util/NoSuchElementException", 1), ("java/lang/IllegalStateException", 2)]
abbrev x_N : List (String × Int32) := [("java/util/NoSuchElementException", 1)]
abbrev x_A : List (String × Int32) := [("java/lang/IllegalArgumentException", 1)]
abbrev x_AU : List (String × Int32) := [("java/lang/IllegalArgumentException", 1), ("java/lang/UnsupportedOperationException", 2)]
abbrev x_NASU : List (String × Int32) := [("java/util/NoSuchElementException", 1), ("java/lang/IllegalArgumentException", 2), ("java/lang/IllegalStateException", 3), ("java/lang/UnsupportedOperationException", 4)]
abbrev x_NSU : List (String × Int32) := [("java/util/NoSuchElementException", 1), ("java/lang/IllegalStateException", 2), ("java/lang/UnsupportedOperationException", 3)]
section X1
variable {l : Launch} {G : ev_G} {x ol ll : Nat} {oa la lo ow : Nat → Nat} {no nl : Nat} {A B : st_A} {h : ev_AH}
theorem xp_orderAt (hb : xb G x ol ll oa la lo ow no nl B h) (hno : no ≤ 20) (hnl : nl ≤ 60) {p : Int32} : Mt l G M_X_orderAt [.ref x, .int p] (XH oa la lo no nl A h) (ev_pr (fun r h' => ∃ i, i < no ∧ p = nI i ∧ r = oa i ∧ h' = XH oa la lo no nl A h ∧ ¬ (p < 0 ∨ nI no ≤ p) ∧ p.toNatClampNeg = i) (fun E h' => E = "java/util/NoSuchElementException" ∧ (p < 0 ∨ nI no ≤ p) ∧ h' = XH oa la lo no nl A h)) := by
  refine vX_orderAt ?_
  rcases st_ix p (n := no) (by omega) with ⟨i, hi, rfl, i1, i2, i3, i4, i5⟩ | ⟨i1, i2, i3⟩
  · have i6 : nI i < nI no := Int32.not_le.mp i4
    simp (config := { decide := true }) only [i3, i6, hi, xx_0 hb, xx_1 hb, xx_f hb, xo_f hb, xl_f hb, xg_o hb hno, xg_l hb hnl, xn_o hb, xn_l hb, xn_i hb, xg_i hb, xf_o hb, xf_l hb, xf_i hb, xo_0 hb, xo_1 hb, xo_2 hb, xo_3 hb, xo_4 hb, xo_5 hb, xo_6 hb, xo_7 hb, xo_8 hb, xo_9 hb, xl_0 hb, xl_1 hb, xl_2 hb, xl_3 hb, xl_4 hb, xl_5 hb, xl_6 hb, xl_7 hb, xl_8 hb, xl_9 hb, xl_10 hb, ws_5 hb, ws_6 hb, ws_7 hb, ws_8 hb, ws_9 hb, wl_3 hb, wl_4 hb, wl_5 hb, wl_6 hb, wl_7 hb, wl_8 hb, wl_9 hb, wl_10 hb, st_h_n, st_up_s, st_up_n, ne_eq, rg_and, rg_or, Option.some.injEq, Value.int.injEq, Value.ref.injEq, exists_eq_left', exists_eq_left, exists_eq', exists_and_left, and_assoc, true_and, forall_eq, forall_eq', not_false_eq_true, true_implies, and_true, ev_b0, Classical.not_not, st_up_s, st_up_n, ne_eq, not_false_eq_true, not_true_eq_false, true_and, and_true, and_self, or_self, or_false, false_or, or_true, true_or, false_and, and_false, if_false, if_true, true_implies, false_implies, implies_true, exists_eq_left', exists_eq_left, forall_eq, forall_eq', ev_b0, Classical.not_not, reduceIte]
    exact ⟨i, hi, rfl, rfl, rfl, i4, i5⟩
  · simp (config := { decide := true }) only [xx_0 hb, xx_1 hb, xx_f hb, xo_f hb, xl_f hb, xg_o hb hno, xg_l hb hnl, xn_o hb, xn_l hb, xn_i hb, xg_i hb, xf_o hb, xf_l hb, xf_i hb, xo_0 hb, xo_1 hb, xo_2 hb, xo_3 hb, xo_4 hb, xo_5 hb, xo_6 hb, xo_7 hb, xo_8 hb, xo_9 hb, xl_0 hb, xl_1 hb, xl_2 hb, xl_3 hb, xl_4 hb, xl_5 hb, xl_6 hb, xl_7 hb, xl_8 hb, xl_9 hb, xl_10 hb, ws_5 hb, ws_6 hb, ws_7 hb, ws_8 hb, ws_9 hb, wl_3 hb, wl_4 hb, wl_5 hb, wl_6 hb, wl_7 hb, wl_8 hb, wl_9 hb, wl_10 hb, st_h_n, st_up_s, st_up_n, ne_eq, rg_and, rg_or, Option.some.injEq, Value.int.injEq, Value.ref.injEq, exists_eq_left', exists_eq_left, exists_eq', exists_and_left, and_assoc, true_and, forall_eq, forall_eq', not_false_eq_true, true_implies, and_true, ev_b0, Classical.not_not, st_up_s, st_up_n, ne_eq, not_false_eq_true, not_true_eq_false, true_and, and_true, and_self, or_self, or_false, false_or, or_true, true_or, false_and, and_false, if_false, if_true, true_implies, false_implies, implies_true, exists_eq_left', exists_eq_left, forall_eq, forall_eq', ev_b0, Classical.not_not, reduceIte]
    refine ⟨fun _ => ⟨rfl, i3, rfl⟩, fun y => ⟨fun z => ?_, fun _ => ⟨rfl, i3, rfl⟩⟩⟩
    rcases i3 with i3 | i3
    · exact absurd i3 y
    · exact absurd z (Int32.not_lt.mpr i3)
theorem xp_lineAt (hb : xb G x ol ll oa la lo ow no nl B h) (hno : no ≤ 20) (hnl : nl ≤ 60) {p : Int32} : Mt l G M_X_lineAt [.ref x, .int p] (XH oa la lo no nl A h) (ev_pr (fun r h' => ∃ i, i < nl ∧ p = nI i ∧ r = la i ∧ h' = XH oa la lo no nl A h ∧ ¬ (p < 0 ∨ nI nl ≤ p) ∧ p.toNatClampNeg = i) (fun E h' => E = "java/util/NoSuchElementException" ∧ (p < 0 ∨ nI nl ≤ p) ∧ h' = XH oa la lo no nl A h)) := by
  refine vX_lineAt ?_
  rcases st_ix p (n := nl) (by omega) with ⟨i, hi, rfl, i1, i2, i3, i4, i5⟩ | ⟨i1, i2, i3⟩
  · have i6 : nI i < nI nl := Int32.not_le.mp i4
    simp (config := { decide := true }) only [i3, i6, hi, xx_0 hb, xx_1 hb, xx_f hb, xo_f hb, xl_f hb, xg_o hb hno, xg_l hb hnl, xn_o hb, xn_l hb, xn_i hb, xg_i hb, xf_o hb, xf_l hb, xf_i hb, xo_0 hb, xo_1 hb, xo_2 hb, xo_3 hb, xo_4 hb, xo_5 hb, xo_6 hb, xo_7 hb, xo_8 hb, xo_9 hb, xl_0 hb, xl_1 hb, xl_2 hb, xl_3 hb, xl_4 hb, xl_5 hb, xl_6 hb, xl_7 hb, xl_8 hb, xl_9 hb, xl_10 hb, ws_5 hb, ws_6 hb, ws_7 hb, ws_8 hb, ws_9 hb, wl_3 hb, wl_4 hb, wl_5 hb, wl_6 hb, wl_7 hb, wl_8 hb, wl_9 hb, wl_10 hb, st_h_n, st_up_s, st_up_n, ne_eq, rg_and, rg_or, Option.some.injEq, Value.int.injEq, Value.ref.injEq, exists_eq_left', exists_eq_left, exists_eq', exists_and_left, and_assoc, true_and, forall_eq, forall_eq', not_false_eq_true, true_implies, and_true, ev_b0, Classical.not_not, st_up_s, st_up_n, ne_eq, not_false_eq_true, not_true_eq_false, true_and, and_true, and_self, or_self, or_false, false_or, or_true, true_or, false_and, and_false, if_false, if_true, true_implies, false_implies, implies_true, exists_eq_left', exists_eq_left, forall_eq, forall_eq', ev_b0, Classical.not_not, reduceIte]
    exact ⟨i, hi, rfl, rfl, rfl, i4, i5⟩
  · simp (config := { decide := true }) only [xx_0 hb, xx_1 hb, xx_f hb, xo_f hb, xl_f hb, xg_o hb hno, xg_l hb hnl, xn_o hb, xn_l hb, xn_i hb, xg_i hb, xf_o hb, xf_l hb, xf_i hb, xo_0 hb, xo_1 hb, xo_2 hb, xo_3 hb, xo_4 hb, xo_5 hb, xo_6 hb, xo_7 hb, xo_8 hb, xo_9 hb, xl_0 hb, xl_1 hb, xl_2 hb, xl_3 hb, xl_4 hb, xl_5 hb, xl_6 hb, xl_7 hb, xl_8 hb, xl_9 hb, xl_10 hb, ws_5 hb, ws_6 hb, ws_7 hb, ws_8 hb, ws_9 hb, wl_3 hb, wl_4 hb, wl_5 hb, wl_6 hb, wl_7 hb, wl_8 hb, wl_9 hb, wl_10 hb, st_h_n, st_up_s, st_up_n, ne_eq, rg_and, rg_or, Option.some.injEq, Value.int.injEq, Value.ref.injEq, exists_eq_left', exists_eq_left, exists_eq', exists_and_left, and_assoc, true_and, forall_eq, forall_eq', not_false_eq_true, true_implies, and_true, ev_b0, Classical.not_not, st_up_s, st_up_n, ne_eq, not_false_eq_true, not_true_eq_false, true_and, and_true, and_self, or_self, or_false, false_or, or_true, true_or, false_and, and_false, if_false, if_true, true_implies, false_implies, implies_true, exists_eq_left', exists_eq_left, forall_eq, forall_eq', ev_b0, Classical.not_not, reduceIte]
    refine ⟨fun _ => ⟨rfl, i3, rfl⟩, fun y => ⟨fun z => ?_, fun _ => ⟨rfl, i3, rfl⟩⟩⟩
    rcases i3 with i3 | i3
    · exact absurd i3 y
    · exact absurd z (Int32.not_lt.mpr i3)
theorem xp_hold (hb : xb G x ol ll oa la lo ow no nl A h) (hI : st_I no nl A) {p n : Int32} : Mt l G M_X_hold [.ref x, .int p, .int n] (XH oa la lo no nl A h) (xP oa la lo h x_NAS (op_hold no nl A p n)) := by
  have hno := hI.1.1
  have hnl := hI.1.2
  refine vX_hold ⟨(xx_f hb).mpr trivial, _, _, xp_lineAt hb hno hnl, fun r h1 e => ?_, fun E h1 e => ?_⟩
  rotate_left
  · obtain ⟨rfl, e1, rfl⟩ := e
    simp (config := { decide := true }) only [e1, op_hold, xP, st_up_s, st_up_n, ne_eq, not_false_eq_true, not_true_eq_false, true_and, and_true, and_self, or_self, or_false, false_or, or_true, true_or, false_and, and_false, if_false, if_true, true_implies, false_implies, implies_true, exists_eq_left', exists_eq_left, forall_eq, forall_eq', ev_b0, Classical.not_not, reduceIte]
    all_goals first | exact ⟨rfl, rfl, rfl⟩ | exact ⟨rfl, rfl⟩ | exact ⟨by decide, rfl⟩
  obtain ⟨j, hj, rfl, rfl, rfl, e1, e2⟩ := e
  obtain ⟨i, hi, k2, k1, e13, eh, k3, k4⟩ := st_I_13 hI hj
  simp (config := { decide := true }) only [hi, hj, eh, xx_0 hb, xx_1 hb, xx_f hb, xo_f hb, xl_f hb, xg_o hb hno, xg_l hb hnl, xn_o hb, xn_l hb, xn_i hb, xg_i hb, xf_o hb, xf_l hb, xf_i hb, xo_0 hb, xo_1 hb, xo_2 hb, xo_3 hb, xo_4 hb, xo_5 hb, xo_6 hb, xo_7 hb, xo_8 hb, xo_9 hb, xl_0 hb, xl_1 hb, xl_2 hb, xl_3 hb, xl_4 hb, xl_5 hb, xl_6 hb, xl_7 hb, xl_8 hb, xl_9 hb, xl_10 hb, ws_5 hb, ws_6 hb, ws_7 hb, ws_8 hb, ws_9 hb, wl_3 hb, wl_4 hb, wl_5 hb, wl_6 hb, wl_7 hb, wl_8 hb, wl_9 hb, wl_10 hb, st_h_n, st_up_s, st_up_n, ne_eq, rg_and, rg_or, Option.some.injEq, Value.int.injEq, Value.ref.injEq, exists_eq_left', exists_eq_left, exists_eq', exists_and_left, and_assoc, true_and, forall_eq, forall_eq', not_false_eq_true, true_implies, and_true, ev_b0, Classical.not_not, st_up_s, st_up_n, ne_eq, not_false_eq_true, not_true_eq_false, true_and, and_true, and_self, or_self, or_false, false_or, or_true, true_or, false_and, and_false, if_false, if_true, true_implies, false_implies, implies_true, exists_eq_left', exists_eq_left, forall_eq, forall_eq', ev_b0, Classical.not_not, reduceIte]
  simp (config := { decide := true }) only [e1, e2, eh, op_hold, op_hold1, st_up_s, st_up_n, ne_eq, not_false_eq_true, not_true_eq_false, true_and, and_true, and_self, or_self, or_false, false_or, or_true, true_or, false_and, and_false, if_false, if_true, true_implies, false_implies, implies_true, exists_eq_left', exists_eq_left, forall_eq, forall_eq', ev_b0, Classical.not_not, reduceIte]
  by_cases c1 : 1 ≤ n ∧ n ≤ 1000
  rotate_left
  · simp (config := { decide := true }) only [c1, st_up_s, st_up_n, ne_eq, not_false_eq_true, not_true_eq_false, true_and, and_true, and_self, or_self, or_false, false_or, or_true, true_or, false_and, and_false, if_false, if_true, true_implies, false_implies, implies_true, exists_eq_left', exists_eq_left, forall_eq, forall_eq', ev_b0, Classical.not_not, reduceIte, xP]
    all_goals first | exact ⟨rfl, rfl, rfl⟩ | exact ⟨rfl, rfl⟩ | exact ⟨by decide, rfl⟩
  by_cases c2 : A 21 j = 0
  · rcases st_ph hI hi with c6 | c6 | c6 | c6 | c6 | c6 | c6 | c6 <;> simp (config := { decide := true }) only [c1, c2, c6, st_up_s, st_up_n, ne_eq, not_false_eq_true, not_true_eq_false, true_and, and_true, and_self, or_self, or_false, false_or, or_true, true_or, false_and, and_false, if_false, if_true, true_implies, false_implies, implies_true, exists_eq_left', exists_eq_left, forall_eq, forall_eq', ev_b0, Classical.not_not, reduceIte, xP]
    all_goals first | exact ⟨rfl, rfl, rfl⟩ | exact ⟨rfl, rfl⟩ | exact ⟨by decide, rfl⟩
  by_cases c3 : (A 18 j + n) ≤ A 17 j
  · have c3' : ¬ A 17 j < A 18 j + n := Int32.not_lt.mpr c3
    rcases st_ph hI hi with c6 | c6 | c6 | c6 | c6 | c6 | c6 | c6 <;> simp (config := { decide := true }) only [c1, c2, c3, c3', c6, st_up_s, st_up_n, ne_eq, not_false_eq_true, not_true_eq_false, true_and, and_true, and_self, or_self, or_false, false_or, or_true, true_or, false_and, and_false, if_false, if_true, true_implies, false_implies, implies_true, exists_eq_left', exists_eq_left, forall_eq, forall_eq', ev_b0, Classical.not_not, reduceIte, xP]
    all_goals first | exact ⟨rfl, rfl, rfl⟩ | exact ⟨rfl, rfl⟩ | exact ⟨by decide, rfl⟩
  · have c3' : A 17 j < A 18 j + n := Int32.not_le.mp c3
    rcases st_ph hI hi with c6 | c6 | c6 | c6 | c6 | c6 | c6 | c6 <;> simp (config := { decide := true }) only [c1, c2, c3, c3', c6, st_up_s, st_up_n, ne_eq, not_false_eq_true, not_true_eq_false, true_and, and_true, and_self, or_self, or_false, false_or, or_true, true_or, false_and, and_false, if_false, if_true, true_implies, false_implies, implies_true, exists_eq_left', exists_eq_left, forall_eq, forall_eq', ev_b0, Classical.not_not, reduceIte, xP]
    all_goals first | exact ⟨rfl, rfl, rfl⟩ | exact ⟨rfl, rfl⟩ | exact ⟨by decide, rfl⟩
end X1
