/-! WHAT HOLDS IN EVERY STATE: order, line, backorder, join -/
section INV3
variable {no nl : Nat} {A A' : st_A}
theorem I_22 (hI : st_I no nl A) {j : Nat} (hj : j < nl) : st_I no nl (st_up A 22 j 1) := by
  obtain ⟨ww, h, pp, s, g, t, r, z1, z2, z3, z4, z5, z6, z7, z8, z9, z10, z11, z12, z13, z14, z15, z16⟩ := (id hI : _).2.2.2.2.1 j hj
  refine I_ln hI hj (fun f y z => ?_) ?_ ?_
  · by_cases c : y = j
    · rw [st_up_n (by omega)]
    · rw [st_sn c]
  · refine ⟨ww, h, pp, s, g, t, r, z1, z2, z3, z4, ?_⟩
    simp (config := { decide := true }) only [st_up_s, st_up_n, ne_eq, not_false_eq_true]
    exact ⟨z5, z6, z7, z8, z9, z10, z11, z12, z13, z14, z15, by decide⟩
  · intro i q z1 z2 z3 z4
    simp (config := { decide := true }) only [st_up_s, st_up_n, ne_eq, not_false_eq_true]
    exact (id hI : _).2.2.2.2.2.1 j hj i q z1 z2 z3 z4
theorem I_no (hI : st_I no nl A) (hno : no < 20) {c n r d : Int32} : st_I (no + 1) nl (st_no A no c n r d) := by
  obtain ⟨h1, h2, h3, h4, h5, h6, h7, h8⟩ := hI
  have e : ∀ f y, f = 7 ∨ 10 ≤ f → st_no A no c n r d f y = A f y := fun f y hf => by
    unfold st_no
    rw [st_up_n (by omega), st_up_n (by omega), st_up_n (by omega), st_up_n (by omega), st_up_n (by omega), st_up_n (by omega), st_up_n (by omega)]
  have en : ∀ f y, ¬ y = no → st_no A no c n r d f y = A f y := fun f y hy => by
    unfold st_no
    rw [st_sn hy, st_sn hy, st_sn hy, st_sn hy, st_sn hy, st_sn hy, st_sn hy]
  have e6 : st_no A no c n r d 6 no = 0 := by
    unfold st_no
    rw [st_up_n (by decide), st_up_n (by decide), st_up_s]
  obtain ⟨z7, z10⟩ := h7 no (Nat.le_refl _)
  refine st_I_mk ⟨by omega, h1.2⟩ (fun j hj => ?_) (fun i hi => ?_) (fun i hi => ?_) (fun j hj => i5_c (h5 j hj) (fun f hf => e f j (by omega))) (fun j hj i q z1 z2 z3 z4 => ?_) (fun i hi => ?_) (i8_c h8 (fun f y _ hf => e f y (by omega)))
  · obtain ⟨i, hi, e1, s, k, z⟩ := h2 j hj
    refine ⟨i, by omega, by rw [e 13 _ (by decide)]; exact e1, s, k, ?_⟩
    rw [e 10 _ (by decide), e 11 _ (by decide)]
    exact z
  · by_cases y : i = no
    · subst y
      exact ⟨0, by decide, by rw [e 10 _ (by decide)]; exact z10, fun k hk => by omega⟩
    · obtain ⟨s, s1, s2, s3⟩ := h3 i (by omega)
      refine ⟨s, s1, by rw [e 10 _ (by decide)]; exact s2, fun k hk => ?_⟩
      obtain ⟨j, j1, j2, j3⟩ := s3 k hk
      exact ⟨j, j1, by rw [e 11 _ (by decide)]; exact j2, by rw [e 13 _ (by decide)]; exact j3⟩
  · by_cases y : i = no
    · subst y
      exact ⟨0, 0, by decide, e6, by decide, by rw [e 7 _ (by decide)]; exact z7, fun y => by omega⟩
    · rw [en 6 i y, en 7 i y, en 10 i y]
      exact h4 i (by omega)
  · rw [e 13 _ (by decide)] at z2
    rw [e 20 _ (by decide), e 19 _ (by decide), e 21 _ (by decide)]
    have hi : i < no := by
      obtain ⟨i', hi', e1, -⟩ := h2 j hj
      have : i' = i := (nI_eq (by omega) (by omega)).mp (e1.symm.trans z2)
      omega
    rw [en 6 i (by omega)] at z4
    exact h6 j hj i q hi z2 z3 z4
  · rw [e 7 _ (by decide), e 10 _ (by decide)]
    exact h7 i (by omega)
theorem I_nl (hI : st_I no nl A) (hnl : nl < 60) {i s : Nat} (hi : i < no) (h60 : A 6 i = 0) (hs : sx_ok A i s nl) (s8 : s < 8) {g n r : Nat} (hg : g ≤ 15) (hn : n ≤ 1000) (hr : r ≤ 7) : st_I no (nl + 1) (st_nl A nl i (nI g) (nI n) (nI r)) := by
  obtain ⟨h1, h2, h3, h4, h5, h6, h7, h8⟩ := hI
  have i20 : i < 20 := hs.1.1
  have es := hs.s
  have e10s := hs.1.2.2.1
  obtain ⟨B, eB⟩ : ∃ B, B = st_nl A nl i (nI g) (nI n) (nI r) := ⟨_, rfl⟩
  rw [← eB]
  have ess : st_s (st_up (st_up (st_up (st_up (st_up A 14 nl (nI g)) 15 nl (-1)) 16 nl (nI r)) 17 nl (nI n)) 21 nl 1) i = s := by
    unfold st_s at es ⊢
    rw [st_up_n (by decide), st_up_n (by decide), st_up_n (by decide), st_up_n (by decide), st_up_n (by decide)]
    exact es
  have b67 : ∀ f y, f = 6 ∨ f = 7 ∨ f = 18 ∨ f = 19 ∨ f = 20 ∨ f = 22 → B f y = A f y := fun f y hf => by
    rw [eB]
    unfold st_nl
    rw [st_up_n (by omega), st_hang_n (by omega) (by omega) (by omega), st_up_n (by omega), st_up_n (by omega), st_up_n (by omega), st_up_n (by omega), st_up_n (by omega)]
  have b10 : B 10 i = nI (s + 1) := by
    rw [eB]
    unfold st_nl
    rw [st_up_n (by decide), st_hang_10, st_up_n (by decide), st_up_n (by decide), st_up_n (by decide), st_up_n (by decide), st_up_n (by decide), e10s, nI_1]
  have b10n : ∀ y, ¬ y = i → B 10 y = A 10 y := fun y hy => by
    rw [eB]
    unfold st_nl
    rw [st_up_n (by decide), st_hang_10n hy, st_up_n (by decide), st_up_n (by decide), st_up_n (by decide), st_up_n (by decide), st_up_n (by decide)]
  have b11 : B 11 (8 * i + s) = nI nl := by
    rw [eB]
    unfold st_nl
    rw [st_up_n (by decide)]
    have := st_hang_11s (A := st_up (st_up (st_up (st_up (st_up A 14 nl (nI g)) 15 nl (-1)) 16 nl (nI r)) 17 nl (nI n)) 21 nl 1) (o := i) (l := nl)
    rw [ess] at this
    exact this
  have b11n : ∀ y, ¬ y = 8 * i + s → B 11 y = A 11 y := fun y hy => by
    rw [eB]
    unfold st_nl
    rw [st_up_n (by decide), st_hang_11 (by rw [ess]; exact hy), st_up_n (by decide), st_up_n (by decide), st_up_n (by decide), st_up_n (by decide), st_up_n (by decide)]
  have b13 : B 13 nl = nI i := by
    rw [eB]
    unfold st_nl
    rw [st_up_n (by decide), st_hang_13]
  have b13n : ∀ y, ¬ y = nl → B 13 y = A 13 y := fun y hy => by
    rw [eB]
    unfold st_nl
    rw [st_up_n (by decide), st_hang_13n hy, st_up_n (by decide), st_up_n (by decide), st_up_n (by decide), st_up_n (by decide), st_up_n (by decide)]
  have bl : ∀ f y, 14 ≤ f → ¬ y = nl → B f y = A f y := fun f y hf hy => by
    rw [eB]
    unfold st_nl
    rw [st_up_n (by omega), st_hang_n (by omega) (by omega) (by omega), st_sn hy, st_sn hy, st_sn hy, st_sn hy, st_sn hy]
  have bn : B 14 nl = nI g ∧ B 15 nl = -1 ∧ B 16 nl = nI r ∧ B 17 nl = nI n ∧ B 21 nl = 1 := by
    rw [eB]
    unfold st_nl
    refine ⟨?_, ?_, ?_, ?_, ?_⟩ <;> rw [st_up_n (by decide), st_hang_n (by decide) (by decide) (by decide)] <;> simp (config := { decide := true }) only [st_up_s, st_up_n, ne_eq, not_false_eq_true]
  clear eB ess
  obtain ⟨y18, y19, y20, y22⟩ := h8 nl (Nat.le_refl _)
  refine st_I_mk ⟨h1.1, by omega⟩ (fun j hj => ?_) (fun y hy => ?_) (fun y hy => ?_) (fun j hj => ?_) (fun j hj y q z1 z2 z3 z4 => ?_) (fun y hy => ?_) (fun y hy => ?_)
  · by_cases c : j = nl
    · subst c
      exact ⟨i, hi, b13, s + 1, s, b10, by omega, by omega, b11⟩
    · obtain ⟨y, hy, e1, s', k, e2, e3, e4, e5⟩ := h2 j (by omega)
      by_cases c2 : y = i
      · subst c2
        have : s' = s := (nI_eq (by omega) (by omega)).mp (e2.symm.trans e10s)
        subst this
        exact ⟨y, hy, by rw [b13n j c]; exact e1, s' + 1, k, b10, by omega, by omega, by rw [b11n _ (by omega)]; exact e5⟩
      · exact ⟨y, hy, by rw [b13n j c]; exact e1, s', k, by rw [b10n y c2]; exact e2, e3, e4, by rw [b11n _ (by omega)]; exact e5⟩
  · obtain ⟨s', s1, s2, s3⟩ := h3 y hy
    by_cases c : y = i
    · subst c
      have : s' = s := (nI_eq (by omega) (by omega)).mp (s2.symm.trans e10s)
      subst this
      refine ⟨s' + 1, by omega, b10, fun k hk => ?_⟩
      by_cases c2 : k = s'
      · subst c2
        exact ⟨nl, by omega, b11, b13⟩
      · obtain ⟨j, j1, j2, j3⟩ := s3 k (by omega)
        exact ⟨j, by omega, by rw [b11n _ (by omega)]; exact j2, by rw [b13n j (by omega)]; exact j3⟩
    · refine ⟨s', s1, by rw [b10n y c]; exact s2, fun k hk => ?_⟩
      obtain ⟨j, j1, j2, j3⟩ := s3 k hk
      exact ⟨j, by omega, by rw [b11n _ (by omega)]; exact j2, by rw [b13n j (by omega)]; exact j3⟩
  · obtain ⟨q, b, z1, z2, z3, z4, z5⟩ := h4 y hy
    refine ⟨q, b, z1, by rw [b67 6 y (by decide)]; exact z2, z3, by rw [b67 7 y (by decide)]; exact z4, fun yq => ?_⟩
    by_cases c : y = i
    · subst c
      rw [h60] at z2
      have := (nI_eq (a := 0) (b := q) (by omega) (by omega)).mp z2
      omega
    · rw [b10n y c]; exact z5 yq
  · by_cases c : j = nl
    · subst c
      obtain ⟨n1, n2, n3, n4, n5⟩ := bn
      refine ⟨n, 0, 0, 0, g, 0, r, by omega, by omega, hn, by omega, n4, ?_⟩
      rw [b67 18 _ (by decide), b67 19 _ (by decide), b67 20 _ (by decide), b67 22 _ (by decide), n1, n2, n3, n5]
      exact ⟨y18, y19, y20, hg, rfl, by omega, by decide, hr, rfl, by decide, Or.inl y22⟩
    · exact i5_c (h5 j (by omega)) (fun f hf => bl f j hf c)
  · rw [b67 6 y (by decide)] at z4
    rw [b67 20 j (by decide), b67 19 j (by decide)]
    by_cases c : j = nl
    · subst c
      rw [b13] at z2
      have : i = y := (nI_eq (by omega) (by omega)).mp z2
      subst this
      refine ⟨fun _ => y20, fun _ => y19, fun y => ?_⟩
      rw [h60] at z4
      have := (nI_eq (a := 0) (b := q) (by omega) (by omega)).mp z4
      omega
    · rw [b13n j c] at z2
      rw [bl 21 j (by decide) c]
      exact h6 j (by omega) y q z1 z2 z3 z4
  · rw [b67 7 y (by decide), b10n y (by omega)]
    exact h7 y hy
  · rw [b67 18 y (by decide), b67 19 y (by decide), b67 20 y (by decide), b67 22 y (by decide)]
    exact h8 y (by omega)
theorem I_order (hI : st_I no nl A) {c n r d : Int32} : st_I (op_order no nl A c n r d).2.2.1 (op_order no nl A c n r d).2.2.2.1 (op_order no nl A c n r d).2.2.2.2 := by
  unfold op_order
  split
  · exact hI
  · split
    · exact hI
    · split
      · exact hI
      · next c20 =>
        exact I_no hI (by
          have := hI.1
          have : no ≠ 20 := fun y => c20 (by rw [y]; rfl)
          omega)
theorem I_line (hI : st_I no nl A) {p g n r : Int32} : st_I (op_line no nl A p g n r).2.2.1 (op_line no nl A p g n r).2.2.2.1 (op_line no nl A p g n r).2.2.2.2 := by
  rcases st_ix p (n := no) (by have := hI.1; omega) with ⟨i, hi, rfl, i1, i2, i3, i4, i5⟩ | ⟨i1, i2, i3⟩
  rotate_left
  · rw [op_line, if_pos i3]; exact hI
  rw [op_line, if_neg (fun y => y.elim i3 i4), i5]
  unfold op_line1
  by_cases c1 : ¬ ((0 ≤ g ∧ g ≤ 15) ∧ (1 ≤ n ∧ n ≤ 1000) ∧ (0 ≤ r ∧ r ≤ 7))
  · rw [if_pos c1]; exact hI
  rw [if_neg c1]
  by_cases c2 : ¬ A 6 i = 0
  · rw [if_pos c2]; exact hI
  rw [if_neg c2]
  by_cases c3 : nI nl = 60 ∨ A 10 i = 8
  · rw [if_pos c3]; exact hI
  rw [if_neg c3]
  obtain ⟨d1, d2, d3⟩ := Classical.not_not.mp c1
  obtain ⟨g', g1, g2, rfl⟩ := I_of2 (a := 0) (b := 15) rfl (by decide) (by decide) 15 rfl d1
  obtain ⟨n', n1, n2, rfl⟩ := I_of2 (a := 1) (b := 1000) rfl (by decide) (by decide) 1000 rfl d2
  obtain ⟨r', r1, r2, rfl⟩ := I_of2 (a := 0) (b := 7) rfl (by decide) (by decide) 7 rfl d3
  obtain ⟨s, hs⟩ := sx_of hI hi
  have s8 : s < 8 := by
    have := hs.1.2.1
    have : s ≠ 8 := fun y => c3 (Or.inr (by rw [hs.1.2.2.1, y]; rfl))
    omega
  have n60 : nl < 60 := by
    have := hI.1
    have : nl ≠ 60 := fun y => c3 (Or.inl (by rw [y]; rfl))
    omega
  exact I_nl hI n60 hi (Classical.not_not.mp c2) hs s8 g2 n2 r2
theorem I_backorder (hI : st_I no nl A) {p : Int32} : st_I (op_backorder no nl A p).2.2.1 (op_backorder no nl A p).2.2.2.1 (op_backorder no nl A p).2.2.2.2 := by
  rcases st_ix p (n := nl) (by have := hI.1; omega) with ⟨j, hj, rfl, i1, i2, i3, i4, i5⟩ | ⟨i1, i2, i3⟩
  rotate_left
  · rw [op_backorder, if_pos i3]; exact hI
  rw [op_backorder, if_neg (fun y => y.elim i3 i4), i5]
  unfold op_backorder1
  split
  · exact hI
  · split
    · exact hI
    · next c3 =>
      obtain ⟨ww, h, pp, s, g, t, r, z1, z2, z3, z4, z5, z6, z7, z8, z9, z10, z11, z12, z13, z14, z15⟩ := (id hI : _).2.2.2.2.1 j hj
      have hno : no < 20 := by
        have := hI.1
        have : no ≠ 20 := fun y => c3 (Or.inl (by rw [y]; rfl))
        omega
      have hnl : nl < 60 := by
        have := hI.1
        have : nl ≠ 60 := fun y => c3 (Or.inr (by rw [y]; rfl))
        omega
      have hN := I_no (c := A 2 (st_h A j)) (n := 0) (r := A 4 (st_h A j)) (d := A 5 (st_h A j)) (I_22 hI hj) hno
      have z10' : A 10 no = 0 := ((id hI : _).2.2.2.2.2.2.1 no (Nat.le_refl _)).2
      rw [z10, z14, z5, z8, pk_sub z4]
      refine I_nl hN hnl (i := no) (s := 0) (by omega) ?_ ?_ (by decide) z9 (by omega) z13
      · unfold st_no
        rw [st_up_n (by decide), st_up_n (by decide), st_up_s]
      · refine ⟨⟨hno, by decide, ?_, fun k hk => by omega⟩, fun k hk => by omega⟩
        unfold st_no
        rw [st_up_n (by decide), st_up_n (by decide), st_up_n (by decide), st_up_n (by decide), st_up_n (by decide), st_up_n (by decide), st_up_n (by decide), st_up_n (by decide), z10']
        rfl
end INV3
