/-! WHAT HOLDS IN EVERY STATE: change, cancel, goOn, order, line, backorder -/
theorem st_find_none {p : Nat → Bool} : ∀ d k : Nat, st_find p d k = none → ∀ k', k ≤ k' → k' < k + d → p k' = false := by
  intro d
  induction d with
  | zero => intro k _ k' h1 h2; omega
  | succ d ih =>
    intro k e k' h1 h2
    rw [st_find] at e
    cases hp : p k with
    | true => rw [hp, if_pos rfl] at e; cases e
    | false =>
      rw [hp, if_neg Bool.false_ne_true] at e
      by_cases c : k' = k
      · rw [c]; exact hp
      · exact ih (k + 1) e k' (by omega) (by omega)
theorem st_live_0 {A : st_A} {i s : Nat} (es : st_s A i = s) (e : st_live A i = 0) : ∀ k, k < s → A 21 (st_l A i k) = 0 := by
  intro k hk
  unfold st_live at e
  rw [es] at e
  obtain ⟨-, z2⟩ := st_cnt_0 (fun k => decide (¬ A 21 (st_l A i k) = 0)) s 0 0
  have hf : st_find (fun k => decide (¬ A 21 (st_l A i k) = 0)) s 0 = none := Classical.not_not.mp (fun y => by have := z2 y; omega)
  have := st_find_none s 0 hf k (Nat.zero_le _) (by omega)
  simpa using this
theorem st_ship_20 {A : st_A} {i j : Nat} : ∀ k, st_ship A i k 20 j = A 20 j ∨ (st_ship A i k 20 j = A 19 j ∧ ∃ k', k' < k ∧ st_l A i k' = j) := by
  intro k
  induction k with
  | zero => exact Or.inl rfl
  | succ k ih =>
    rw [st_ship, st_up_f]
    by_cases c : j = st_l A i k
    · rw [if_pos c]
      exact Or.inr ⟨by rw [c], k, by omega, c.symm⟩
    · rw [if_neg c]
      rcases ih with y | ⟨y, k', z1, z2⟩
      · exact Or.inl y
      · exact Or.inr ⟨y, k', by omega, z2⟩
section INV2
variable {no nl : Nat} {A A' : st_A}
theorem I_change (hI : st_I no nl A) {p w v : Int32} : st_I (op_change no nl A p w v).2.2.1 (op_change no nl A p w v).2.2.2.1 (op_change no nl A p w v).2.2.2.2 := by
  rcases st_ix p (n := nl) (by have := hI.1; omega) with ⟨j, hj, rfl, i1, i2, i3, i4, i5⟩ | ⟨i1, i2, i3⟩
  rotate_left
  · rw [op_change, if_pos i3]; exact hI
  rw [op_change, if_neg (fun y => y.elim i3 i4), i5]
  unfold op_change1
  by_cases c1 : ¬ ((w = 0 ∧ 1 ≤ v ∧ v ≤ 1000) ∨ (w = 1 ∧ 0 ≤ v ∧ v ≤ 15) ∨ (w = 2 ∧ 0 ≤ v ∧ v ≤ 7))
  · rw [if_pos c1]; exact hI
  rw [if_neg c1]
  by_cases c2 : A 21 j = 0
  · rw [if_pos c2]; exact hI
  rw [if_neg c2]
  by_cases c3 : (w = 2 ∧ 1 < A 6 (st_h A j)) ∨ (¬ w = 2 ∧ 0 < A 6 (st_h A j))
  · rw [if_pos c3]; exact hI
  rw [if_neg c3]
  by_cases c4 : w = 1 ∧ ((A 16 j &&& 2) = 0 ∨ A 14 j = v)
  · rw [if_pos c4]; exact hI
  rw [if_neg c4]
  show st_I no nl _
  obtain ⟨i, hi, -, -, e13, eh, -⟩ := st_I_13 hI hj
  obtain ⟨ww, h, pp, s, g, t, r, z1, z2, z3, z4, z5, z6, z7, z8, z9, z10, z11, z12, z13, z14, z15⟩ := (id hI : _).2.2.2.2.1 j hj
  refine I_8 ?_
  rw [eh] at c3
  rcases Classical.not_not.mp c1 with ⟨rfl, c5⟩ | ⟨rfl, c5⟩ | ⟨rfl, c5⟩
  · rw [if_pos rfl]
    obtain ⟨k, k1, k2, rfl⟩ := I_of2 (a := 1) (b := 1000) rfl (by decide) (by decide) 1000 rfl c5
    have c6 : ¬ 0 < A 6 i := fun y => c3 (Or.inr ⟨by decide, y⟩)
    obtain ⟨q, b, q1, q2, -⟩ := (id hI : _).2.2.2.1 i hi
    have q0 : q = 0 := by
      rw [q2] at c6
      rcases Nat.eq_zero_or_pos q with y | y
      · exact y
      · exact absurd (nI_lt (a := 0) y (by omega)) c6
    obtain ⟨g1, g2, -⟩ := (id hI : _).2.2.2.2.2.1 j hj i q hi e13 q1 q2
    have g1 := g1 (by omega)
    have g2 := g2 (by omega)
    have em : (if A 18 j < nI k then A 18 j else nI k) = nI (min h k) := by
      rw [z6]
      by_cases y : h < k
      · rw [if_pos (nI_lt y (by omega)), Nat.min_eq_left (by omega)]
      · rw [if_neg (nI_nlt (by omega) (by omega)), Nat.min_eq_right (by omega)]
    rw [em]
    refine I_ln hI hj (fun f y z => ?_) ?_ ?_
    · by_cases c : y = j
      · rw [st_up_n (by omega), st_up_n (by omega)]
      · rw [st_sn c, st_sn c]
    · refine ⟨k, min h k, 0, 0, g, t, r, by omega, by omega, k2, by omega, ?_⟩
      simp (config := { decide := true }) only [st_up_s, st_up_n, ne_eq, not_false_eq_true]
      exact ⟨trivial, trivial, g2, g1, z9, z10, z11, z12, z13, z14, z15⟩
    · intro i q z1 z2 z3 z4
      simp (config := { decide := true }) only [st_up_s, st_up_n, ne_eq, not_false_eq_true]
      exact (id hI : _).2.2.2.2.2.1 j hj i q z1 z2 z3 z4
  · rw [if_neg (by decide), if_pos rfl]
    obtain ⟨k, k1, k2, rfl⟩ := I_of2 (a := 0) (b := 15) rfl (by decide) (by decide) 15 rfl c5
    refine I_ln hI hj (fun f y z => ?_) ?_ ?_
    · by_cases c : y = j
      · rw [st_up_n (by omega)]
      · rw [st_sn c]
    · refine ⟨ww, h, pp, s, g, k + 1, r, z1, z2, z3, z4, ?_⟩
      simp (config := { decide := true }) only [st_up_s, st_up_n, ne_eq, not_false_eq_true]
      exact ⟨z5, z6, z7, z8, z9, z10, by omega, nI_1 k, z13, z14, z15⟩
    · intro i q z1 z2 z3 z4
      simp (config := { decide := true }) only [st_up_s, st_up_n, ne_eq, not_false_eq_true]
      exact (id hI : _).2.2.2.2.2.1 j hj i q z1 z2 z3 z4
  · rw [if_neg (by decide), if_neg (by decide)]
    obtain ⟨k, k1, k2, rfl⟩ := I_of2 (a := 0) (b := 7) rfl (by decide) (by decide) 7 rfl c5
    refine I_ln hI hj (fun f y z => ?_) ?_ ?_
    · by_cases c : y = j
      · rw [st_up_n (by omega)]
      · rw [st_sn c]
    · refine ⟨ww, h, pp, s, g, t, k, z1, z2, z3, z4, ?_⟩
      simp (config := { decide := true }) only [st_up_s, st_up_n, ne_eq, not_false_eq_true]
      exact ⟨z5, z6, z7, z8, z9, z10, z11, z12, k2, trivial, z15⟩
    · intro i q z1 z2 z3 z4
      simp (config := { decide := true }) only [st_up_s, st_up_n, ne_eq, not_false_eq_true]
      exact (id hI : _).2.2.2.2.2.1 j hj i q z1 z2 z3 z4
/-- an order's phase -/
theorem I_6 (hI : st_I no nl A) {i q : Nat} (hi : i < no) (hq : q ≤ 6) (h6' : ∀ j, j < nl → A 13 j = nI i → (q < 4 → A 20 j = 0) ∧ (q < 2 → A 19 j = 0) ∧ (q = 6 → A 21 j = 0)) : st_I no nl (st_up A 6 i (nI q)) := by
  obtain ⟨h1, h2, h3, h4, h5, h6, h7, h8⟩ := hI
  have e : ∀ f y, f ≠ 6 → st_up A 6 i (nI q) f y = A f y := fun f y hf => st_up_n hf
  refine st_I_mk h1 (i2_c h2 (fun y => e 13 y (by decide)) (fun y => e 10 y (by decide)) (fun y => e 11 y (by decide))) (i3_c h3 (fun y => e 13 y (by decide)) (fun y => e 10 y (by decide)) (fun y => e 11 y (by decide))) (fun y hy => ?_) (fun j hj => i5_c (h5 j hj) (fun f hf => e f j (by omega))) (fun j hj y q' z1 z2 z3 z4 => ?_) (i7_c h7 (fun y _ => e 7 y (by decide)) (fun y _ => e 10 y (by decide))) (i8_c h8 (fun f y _ hf => e f y (by omega)))
  · obtain ⟨qq, b, z1, z2, z3, z4, z5⟩ := h4 y hy
    by_cases c : y = i
    · subst c
      exact ⟨q, b, by omega, st_up_s, z3, by rw [e 7 y (by decide)]; exact z4, fun y => by omega⟩
    · exact ⟨qq, b, z1, by rw [st_up_j c]; exact z2, z3, by rw [e 7 y (by decide)]; exact z4, by rw [e 10 y (by decide)]; exact z5⟩
  · rw [e 13 j (by decide)] at z2
    rw [e 20 j (by decide), e 19 j (by decide), e 21 j (by decide)]
    by_cases c : y = i
    · subst c
      rw [st_up_s] at z4
      have : q = q' := (nI_eq (by omega) (by omega)).mp z4
      subst this
      exact h6' j hj z2
    · rw [st_up_j c] at z4
      exact h6 j hj y q' z1 z2 z3 z4
theorem I_cancel (hI : st_I no nl A) {p : Int32} : st_I (op_cancel no nl A p).2.2.1 (op_cancel no nl A p).2.2.2.1 (op_cancel no nl A p).2.2.2.2 := by
  rcases st_ix p (n := nl) (by have := hI.1; omega) with ⟨j, hj, rfl, i1, i2, i3, i4, i5⟩ | ⟨i1, i2, i3⟩
  rotate_left
  · rw [op_cancel, if_pos i3]; exact hI
  rw [op_cancel, if_neg (fun y => y.elim i3 i4), i5]
  unfold op_cancel1
  by_cases c1 : A 21 j = 0 ∨ 2 < A 6 (st_h A j)
  · rw [if_pos c1]; exact hI
  rw [if_neg c1]
  show st_I no nl _
  obtain ⟨i, hi, i20, -, e13, eh, -⟩ := st_I_13 hI hj
  rw [eh] at c1 ⊢
  obtain ⟨ww, h, pp, s, g, t, r, z1, z2, z3, z4, z5, z6, z7, z8, z9, z10, z11, z12, z13, z14, z15, z16⟩ := (id hI : _).2.2.2.2.1 j hj
  obtain ⟨q, b, q1, q2, -⟩ := (id hI : _).2.2.2.1 i hi
  have q3 : q ≤ 2 := by
    have c2 : ¬ 2 < A 6 i := fun y => c1 (Or.inr y)
    rw [q2] at c2
    rcases Nat.lt_or_ge 2 q with y | y
    · exact absurd (nI_lt (a := 2) y (by omega)) c2
    · exact y
  have g1 := ((id hI : _).2.2.2.2.2.1 j hj i q hi e13 q1 q2).1 (by omega)
  have hC : st_I no nl (st_cancel A j i) := by
    unfold st_cancel
    refine I_8 (I_ln hI hj (fun f y z => ?_) ?_ ?_)
    · by_cases c : y = j
      · rw [st_up_n (by omega), st_up_n (by omega), st_up_n (by omega), st_up_n (by omega)]
      · rw [st_sn c, st_sn c, st_sn c, st_sn c]
    · refine ⟨0, 0, 0, 0, g, t, r, by omega, by omega, by omega, by omega, ?_⟩
      simp (config := { decide := true }) only [st_up_s, st_up_n, ne_eq, not_false_eq_true]
      exact ⟨by decide, by decide, by decide, g1, z9, z10, z11, z12, z13, z14, by decide, z16⟩
    · intro i q z1 z2 z3 z4
      simp (config := { decide := true }) only [st_up_s, st_up_n, ne_eq, not_false_eq_true]
      exact ⟨((id hI : _).2.2.2.2.2.1 j hj i q z1 z2 z3 z4).1, fun _ => trivial, fun _ => trivial⟩
  by_cases c : st_live (st_cancel A j i) i = 0
  · rw [if_pos c]
    refine I_6 (q := 6) hC hi (by decide) (fun j' hj' e' => ⟨fun y => by omega, fun y => by omega, fun _ => ?_⟩)
    obtain ⟨i', hi', e2, s', k, e3, s8, hk, e4⟩ := (id hC : _).2.1 j' hj'
    have : i' = i := (nI_eq (by have := hI.1; omega) (by omega)).mp (e2.symm.trans e')
    subst this
    have := st_live_0 (st_s_of e3 s8) c k hk
    rw [st_l_of e4 (by have := hI.1; omega)] at this
    exact this
  · rw [if_neg c]
    exact hC
theorem I_goOn (hI : st_I no nl A) {p : Int32} : st_I (op_goOn no nl A p).2.2.1 (op_goOn no nl A p).2.2.2.1 (op_goOn no nl A p).2.2.2.2 := by
  rcases st_ix p (n := no) (by have := hI.1; omega) with ⟨i, hi, rfl, i1, i2, i3, i4, i5⟩ | ⟨i1, i2, i3⟩
  rotate_left
  · rw [op_goOn, if_pos i3]; exact hI
  rw [op_goOn, if_neg (fun y => y.elim i3 i4), i5]
  unfold op_goOn1
  by_cases c1 : 5 ≤ A 6 i
  · rw [if_pos c1]; exact hI
  rw [if_neg c1]
  by_cases c2 : st_may A i = false
  · rw [if_pos c2]; exact hI
  rw [if_neg c2]
  show st_I no nl _
  obtain ⟨q, b, q1, q2, -⟩ := (id hI : _).2.2.2.1 i hi
  have q3 : q ≤ 4 := by
    rw [q2] at c1
    rcases Nat.lt_or_ge 4 q with y | y
    · exact absurd (nI_le (a := 5) y (by omega)) c1
    · exact y
  have e6 : A 6 i + 1 = nI (q + 1) := by rw [q2, nI_1]
  have i20 : i < 20 := by have := hI.1; omega
  by_cases c3 : A 6 i = 3
  · rw [if_pos c3, e6]
    have q4 : q = 3 := by rw [q2] at c3; exact (nI_eq (a := q) (b := 3) (by omega) (by omega)).mp c3
    subst q4
    rw [← st_ship_up (by decide) (by decide) (by decide), ← st_ship_up (by decide) (by decide) (by decide)]
    refine I_8 ?_
    generalize hs : st_s A i = s
    have e : ∀ f y, f ≠ 20 → st_ship A i s f y = A f y := fun f y hf => st_ship_n hf s
    obtain ⟨h1, h2, h3, h4, h5, h6, h7, h8⟩ := hI
    have e' : ∀ f y, f ≠ 20 → f ≠ 6 → st_up (st_ship A i s) 6 i (nI 4) f y = A f y := fun f y hf hf' => by rw [st_up_n hf']; exact e f y hf
    have e20 : ∀ y, st_up (st_ship A i s) 6 i (nI 4) 20 y = st_ship A i s 20 y := fun y => st_up_n (by decide)
    refine st_I_mk h1 (i2_c h2 (fun y => e' 13 y (by decide) (by decide)) (fun y => e' 10 y (by decide) (by decide)) (fun y => e' 11 y (by decide) (by decide))) (i3_c h3 (fun y => e' 13 y (by decide) (by decide)) (fun y => e' 10 y (by decide) (by decide)) (fun y => e' 11 y (by decide) (by decide))) (fun y hy => ?_) (fun j hj => ?_) (fun j hj y q' z1 z2 z3 z4 => ?_) (i7_c h7 (fun y _ => e' 7 y (by decide) (by decide)) (fun y _ => e' 10 y (by decide) (by decide))) (fun y hy => ?_)
    · obtain ⟨qq, b, z1, z2, z3, z4, z5⟩ := h4 y hy
      by_cases c : y = i
      · subst c
        exact ⟨4, b, by omega, st_up_s, z3, by rw [e' 7 y (by decide) (by decide)]; exact z4, fun y => by omega⟩
      · exact ⟨qq, b, z1, by rw [st_up_j c, e 6 y (by decide)]; exact z2, z3, by rw [e' 7 y (by decide) (by decide)]; exact z4, by rw [e' 10 y (by decide) (by decide)]; exact z5⟩
    · obtain ⟨ww, h, pp, ss, g, t, r, z1, z2, z3, z4, z5, z6, z7, z8, z9⟩ := h5 j hj
      unfold i5_1
      rw [e' 17 j (by decide) (by decide), e' 18 j (by decide) (by decide), e' 19 j (by decide) (by decide), e20, e' 14 j (by decide) (by decide), e' 15 j (by decide) (by decide), e' 16 j (by decide) (by decide), e' 21 j (by decide) (by decide), e' 22 j (by decide) (by decide)]
      rcases st_ship_20 (A := A) (i := i) (j := j) s with y | ⟨y, -⟩
      · rw [y]; exact ⟨ww, h, pp, ss, g, t, r, z1, z2, z3, z4, z5, z6, z7, z8, z9⟩
      · rw [y]; exact ⟨ww, h, pp, pp, g, t, r, z1, z2, z3, by omega, z5, z6, z7, z7, z9⟩
    · rw [e' 13 j (by decide) (by decide)] at z2
      rw [e20, e' 19 j (by decide) (by decide), e' 21 j (by decide) (by decide)]
      by_cases c : y = i
      · subst c
        rw [st_up_s] at z4
        have : 4 = q' := (nI_eq (by omega) (by omega)).mp z4
        subst this
        exact ⟨fun y => by omega, fun y => by omega, fun y => by omega⟩
      · rw [st_up_j c, e 6 y (by decide)] at z4
        have h0 := h6 j hj y q' z1 z2 z3 z4
        rcases st_ship_20 (A := A) (i := i) (j := j) s with y' | ⟨-, k, hk, ek⟩
        · rw [y']; exact h0
        · exfalso
          obtain ⟨s', hs', e10, zz⟩ := h3 i hi
          have : st_s A i = s' := st_s_of e10 hs'
          obtain ⟨j', hj', e11, e13⟩ := zz k (by omega)
          have ej : j' = j := by rw [← ek]; exact (st_l_of e11 (by omega)).symm
          subst ej
          exact c ((nI_eq (by omega) (by omega)).mp (z2.symm.trans e13))
    · rw [e' 18 y (by decide) (by decide), e' 19 y (by decide) (by decide), e' 22 y (by decide) (by decide), e20]
      have h0 := h8 y hy
      rcases st_ship_20 (A := A) (i := i) (j := y) s with y' | ⟨y', -⟩
      · rw [y']; exact h0
      · rw [y']; exact ⟨h0.1, h0.2.1, h0.2.1, h0.2.2.2⟩
  · rw [if_neg c3, e6]
    have q4 : ¬ q = 3 := fun y => c3 (by rw [q2, y]; rfl)
    refine I_8 (I_6 hI hi (by omega) (fun j hj e => ?_))
    have h0 := (id hI : _).2.2.2.2.2.1 j hj i q hi e q1 q2
    exact ⟨fun y => h0.1 (by omega), fun y => h0.2.1 (by omega), fun y => by omega⟩
end INV2
