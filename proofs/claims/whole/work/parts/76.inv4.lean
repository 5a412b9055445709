/-! WHAT HOLDS IN EVERY STATE: join -/
section INV4
variable {no nl : Nat} {A : st_A} {o y so : Nat}
theorem j13a : ∀ k, ∀ k', k' < k → st_join A o y k 13 (st_l A y k') = nI o := by
  intro k
  induction k with
  | zero => intro k' h; omega
  | succ k ih =>
    intro k' hk
    rw [st_join]
    by_cases c : st_l A y k' = st_l A y k
    · rw [c, st_hang_13]
    · rw [st_hang_13n c]
      refine ih k' ?_
      rcases Nat.lt_or_ge k' k with z | z
      · exact z
      · exact absurd (by rw [show k' = k by omega]) c
theorem j13b {j : Nat} : ∀ k, (∀ k', k' < k → ¬ st_l A y k' = j) → st_join A o y k 13 j = A 13 j := by
  intro k
  induction k with
  | zero => intro _; rfl
  | succ k ih =>
    intro h
    rw [st_join, st_hang_13n (fun z => h k (by omega) z.symm)]
    exact ih (fun k' hk => h k' (by omega))
theorem j11a (e10 : A 10 o = nI so) : ∀ k, so + k ≤ 8 → ∀ k', k' < k → st_join A o y k 11 (8 * o + (so + k')) = nI (st_l A y k') := by
  intro k
  induction k with
  | zero => intro _ k' h; omega
  | succ k ih =>
    intro h8 k' hk
    have es : st_s (st_join A o y k) o = so + k := st_s_of (st_join_10 e10 k) (by omega)
    rw [st_join]
    by_cases c : k' = k
    · subst c
      have := st_hang_11s (A := st_join A o y k') (o := o) (l := st_l A y k')
      rw [es] at this
      exact this
    · rw [st_hang_11 (by rw [es]; omega)]
      exact ih (by omega) k' (by omega)
theorem j11b (e10 : A 10 o = nI so) {x : Nat} : ∀ k, so + k ≤ 8 → (∀ k', k' < k → ¬ x = 8 * o + (so + k')) → st_join A o y k 11 x = A 11 x := by
  intro k
  induction k with
  | zero => intro _ _; rfl
  | succ k ih =>
    intro h8 h
    have es : st_s (st_join A o y k) o = so + k := st_s_of (st_join_10 e10 k) (by omega)
    rw [st_join, st_hang_11 (by rw [es]; exact h k (by omega))]
    exact ih (by omega) (fun k' hk => h k' (by omega))
theorem I_join1 (hI : st_I no nl A) (ho : o < no) (hy : y < no) (hoy : ¬ o = y) (c6o : A 6 o = 0) (c6y : A 6 y = 0) {s : Nat} (e10 : A 10 o = nI so) (e10y : A 10 y = nI s) (h8 : so + s ≤ 8) : st_I no nl (st_up (st_up (st_join A o y s) 10 y 0) 6 y 7) := by
  obtain ⟨h1, h2, h3, h4, h5, h6, h7, h8'⟩ := hI
  have hyo : ¬ y = o := fun z => hoy z.symm
  obtain ⟨B, eB⟩ : ∃ B, B = st_up (st_up (st_join A o y s) 10 y 0) 6 y 7 := ⟨_, rfl⟩
  rw [← eB]
  have bf : ∀ f x, f ≠ 10 → f ≠ 11 → f ≠ 13 → f ≠ 6 → B f x = A f x := fun f x g1 g2 g3 g4 => by rw [eB, st_up_n g4, st_up_n g1, st_join_n g1 g2 g3]
  have b6 : B 6 y = nI 7 := by rw [eB, st_up_s]; rfl
  have b6n : ∀ x, ¬ x = y → B 6 x = A 6 x := fun x hx => by rw [eB, st_up_j hx, st_up_n (by decide), st_join_n (by decide) (by decide) (by decide)]
  have b10y : B 10 y = 0 := by rw [eB, st_up_n (by decide), st_up_s]
  have b10o : B 10 o = nI (so + s) := by rw [eB, st_up_n (by decide), st_up_j hoy, st_join_10 e10]
  have b10n : ∀ x, ¬ x = y → ¬ x = o → B 10 x = A 10 x := fun x g1 g2 => by rw [eB, st_up_n (by decide), st_up_j g1, st_join_10n g2]
  have b11a : ∀ k', k' < s → B 11 (8 * o + (so + k')) = nI (st_l A y k') := fun k' hk => by rw [eB, st_up_n (by decide), st_up_n (by decide)]; exact j11a e10 s h8 k' hk
  have b11b : ∀ x, (∀ k', k' < s → ¬ x = 8 * o + (so + k')) → B 11 x = A 11 x := fun x hx => by rw [eB, st_up_n (by decide), st_up_n (by decide)]; exact j11b e10 s h8 hx
  have b13a : ∀ k', k' < s → B 13 (st_l A y k') = nI o := fun k' hk => by rw [eB, st_up_n (by decide), st_up_n (by decide)]; exact j13a s k' hk
  have b13b : ∀ j, (∀ k', k' < s → ¬ st_l A y k' = j) → B 13 j = A 13 j := fun j hj => by rw [eB, st_up_n (by decide), st_up_n (by decide)]; exact j13b s hj
  clear eB
  have ly : ∀ k, k < s → ∃ j, j < nl ∧ st_l A y k = j ∧ A 13 j = nI y := fun k hk => by
    obtain ⟨s', s1, s2, s3⟩ := h3 y hy
    have : s' = s := (nI_eq (by omega) (by omega)).mp (s2.symm.trans e10y)
    subst this
    obtain ⟨j, j1, j2, j3⟩ := s3 k hk
    exact ⟨j, j1, st_l_of j2 (by omega), j3⟩
  have nin : ∀ j i, i < no → A 13 j = nI i → ¬ i = y → B 13 j = A 13 j := fun j i hi e hn => b13b j (fun k hk z => by
    obtain ⟨j', j1, j2, j3⟩ := ly k hk
    rw [← j2, z, e] at j3
    exact hn ((nI_eq (by omega) (by omega)).mp j3))
  refine st_I_mk h1 (fun j hj => ?_) (fun i hi => ?_) (fun i hi => ?_) (fun j hj => i5_c (h5 j hj) (fun f hf => bf f j (by omega) (by omega) (by omega) (by omega))) (fun j hj i q z1 z2 z3 z4 => ?_) (fun i hi => ?_) (i8_c h8' (fun f x _ hf => bf f x (by omega) (by omega) (by omega) (by omega)))
  · obtain ⟨i, hi, e1, s', k, e2, e3, e4, e5⟩ := h2 j hj
    by_cases c : i = y
    · subst c
      have : s' = s := (nI_eq (by omega) (by omega)).mp (e2.symm.trans e10y)
      subst this
      have el := st_l_of e5 (by omega)
      refine ⟨o, ho, ?_, so + s', so + k, b10o, h8, by omega, ?_⟩
      · rw [← el]; exact b13a k e4
      · rw [b11a k e4, el]
    · by_cases c2 : i = o
      · subst c2
        have : s' = so := (nI_eq (by omega) (by omega)).mp (e2.symm.trans e10)
        subst this
        exact ⟨i, hi, by rw [nin j i hi e1 c]; exact e1, s' + s, k, b10o, h8, by omega, by rw [b11b _ (fun k' hk => by omega)]; exact e5⟩
      · exact ⟨i, hi, by rw [nin j i hi e1 c]; exact e1, s', k, by rw [b10n i c c2]; exact e2, e3, e4, by rw [b11b _ (fun k' hk => by omega)]; exact e5⟩
  · by_cases c : i = y
    · subst c
      exact ⟨0, by decide, b10y, fun k hk => by omega⟩
    · obtain ⟨s', s1, s2, s3⟩ := h3 i hi
      by_cases c2 : i = o
      · subst c2
        have : s' = so := (nI_eq (by omega) (by omega)).mp (s2.symm.trans e10)
        subst this
        refine ⟨s' + s, h8, b10o, fun k hk => ?_⟩
        rcases Nat.lt_or_ge k s' with z | z
        · obtain ⟨j, j1, j2, j3⟩ := s3 k z
          exact ⟨j, j1, by rw [b11b _ (fun k' hk => by omega)]; exact j2, by rw [nin j i hi j3 c]; exact j3⟩
        · obtain ⟨j, j1, j2, j3⟩ := ly (k - s') (by omega)
          refine ⟨j, j1, ?_, ?_⟩
          · have := b11a (k - s') (by omega)
            rw [j2, show s' + (k - s') = k by omega] at this
            exact this
          · rw [← j2]; exact b13a (k - s') (by omega)
      · refine ⟨s', s1, by rw [b10n i c c2]; exact s2, fun k hk => ?_⟩
        obtain ⟨j, j1, j2, j3⟩ := s3 k hk
        exact ⟨j, j1, by rw [b11b _ (fun k' hk => by omega)]; exact j2, by rw [nin j i hi j3 c]; exact j3⟩
  · obtain ⟨q, b, z1, z2, z3, z4, z5⟩ := h4 i hi
    by_cases c : i = y
    · subst c
      exact ⟨7, b, by decide, b6, z3, by rw [bf 7 i (by decide) (by decide) (by decide) (by decide)]; exact z4, fun _ => b10y⟩
    · refine ⟨q, b, z1, by rw [b6n i c]; exact z2, z3, by rw [bf 7 i (by decide) (by decide) (by decide) (by decide)]; exact z4, fun yq => ?_⟩
      by_cases c2 : i = o
      · subst c2
        rw [c6o] at z2
        have := (nI_eq (a := 0) (b := q) (by omega) (by omega)).mp z2
        omega
      · rw [b10n i c c2]; exact z5 yq
  · rw [bf 20 j (by decide) (by decide) (by decide) (by decide), bf 19 j (by decide) (by decide) (by decide) (by decide), bf 21 j (by decide) (by decide) (by decide) (by decide)]
    by_cases c : i = y
    · subst c
      rw [b6] at z4
      have : 7 = q := (nI_eq (by omega) (by omega)).mp z4
      exact ⟨fun _ => by omega, fun _ => by omega, fun _ => by omega⟩
    · rw [b6n i c] at z4
      obtain ⟨i0, hi0, e1, -⟩ := h2 j hj
      by_cases c2 : i0 = y
      · subst c2
        have h0 := h6 j hj i0 0 hi0 e1 (by decide) c6y
        have e13o : B 13 j = nI o := by
          obtain ⟨i1, hi1, f1, s', k, f2, f3, f4, f5⟩ := h2 j hj
          have : i1 = i0 := (nI_eq (by omega) (by omega)).mp (f1.symm.trans e1)
          subst this
          have : s' = s := (nI_eq (by omega) (by omega)).mp (f2.symm.trans e10y)
          subst this
          rw [← st_l_of f5 (by omega)]
          exact b13a k f4
        rw [e13o] at z2
        have : o = i := (nI_eq (by omega) (by omega)).mp z2
        subst this
        rw [c6o] at z4
        have := (nI_eq (a := 0) (b := q) (by omega) (by omega)).mp z4
        exact ⟨fun _ => h0.1 (by decide), fun _ => h0.2.1 (by decide), fun z => by omega⟩
      · rw [nin j i0 hi0 e1 c2] at z2
        exact h6 j hj i q z1 z2 z3 z4
  · rw [bf 7 i (by decide) (by decide) (by decide) (by decide), b10n i (by omega) (by omega)]
    exact h7 i hi
theorem I_join (hI : st_I no nl A) {p q : Int32} : st_I (op_join no nl A p q).2.2.1 (op_join no nl A p q).2.2.2.1 (op_join no nl A p q).2.2.2.2 := by
  rcases st_ix p (n := no) (by have := hI.1; omega) with ⟨o, ho, rfl, i1, i2, i3, i4, i5⟩ | ⟨i1, i2, i3⟩
  rotate_left
  · rw [op_join, if_pos (Or.inl i3)]; exact hI
  rcases st_ix q (n := no) (by have := hI.1; omega) with ⟨y, hy, rfl, x1, x2, x3, x4, x5⟩ | ⟨x1, x2, x3⟩
  rotate_left
  · rw [op_join, if_pos (Or.inr x3)]; exact hI
  rw [op_join, if_neg (fun z => z.elim (fun z => z.elim i3 i4) (fun z => z.elim x3 x4)), i5, x5]
  unfold op_join1
  by_cases c1 : o = y ∨ ¬ A 6 o = 0 ∨ ¬ A 6 y = 0 ∨ ¬ A 2 o = A 2 y ∨ ¬ A 7 o = 0 ∨ ¬ A 7 y = 0
  · rw [if_pos c1]; exact hI
  rw [if_neg c1]
  by_cases c2 : ¬ (A 10 o + A 10 y) ≤ 8
  · rw [if_pos c2]; exact hI
  rw [if_neg c2]
  show st_I no nl _
  obtain ⟨so, hso⟩ := sx_of hI ho
  obtain ⟨s, hs⟩ := sx_of hI hy
  have g1 := hso.1.2.1
  have g2 := hs.1.2.1
  have c7 := Classical.not_not.mp c2
  rw [hso.1.2.2.1, hs.1.2.2.1, nI_add] at c7
  have c8 := (nI_leI (a := so + s) (b := 8) (by omega) (by omega)).mp c7
  rw [hs.s]
  exact I_8 (I_8 (I_59 (I_join1 hI ho hy (fun z => c1 (Or.inl z)) (Classical.not_not.mp fun z => c1 (Or.inr (Or.inl z))) (Classical.not_not.mp fun z => c1 (Or.inr (Or.inr (Or.inl z)))) hso.1.2.2.1 hs.1.2.2.1 c8) (Or.inr rfl)))
end INV4
