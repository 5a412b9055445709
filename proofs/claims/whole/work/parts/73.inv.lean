/-! WHAT HOLDS IN EVERY STATE is kept by every operation -/
def i2_ (no nl : Nat) (A : st_A) : Prop := ∀ j, j < nl → ∃ i, i < no ∧ A 13 j = nI i ∧ ∃ s k, A 10 i = nI s ∧ s ≤ 8 ∧ k < s ∧ A 11 (8 * i + k) = nI j
def i3_ (no nl : Nat) (A : st_A) : Prop := ∀ i, i < no → ∃ s, s ≤ 8 ∧ A 10 i = nI s ∧ ∀ k, k < s → ∃ j, j < nl ∧ A 11 (8 * i + k) = nI j ∧ A 13 j = nI i
def i4_ (no : Nat) (A : st_A) : Prop := ∀ i, i < no → ∃ q b, q ≤ 7 ∧ A 6 i = nI q ∧ b < 256 ∧ A 7 i = nI b ∧ (q = 7 → A 10 i = 0)
def i5_1 (A : st_A) (j : Nat) : Prop := ∃ w h p s g t r, p ≤ h ∧ h ≤ w ∧ w ≤ 1000 ∧ s ≤ w ∧ A 17 j = nI w ∧ A 18 j = nI h ∧ A 19 j = nI p ∧ A 20 j = nI s ∧ g ≤ 15 ∧ A 14 j = nI g ∧ t ≤ 16 ∧ A 15 j + 1 = nI t ∧ r ≤ 7 ∧ A 16 j = nI r ∧ (A 21 j = 0 ∨ A 21 j = 1) ∧ (A 22 j = 0 ∨ A 22 j = 1)
def i6_ (no nl : Nat) (A : st_A) : Prop := ∀ j, j < nl → ∀ i q, i < no → A 13 j = nI i → q ≤ 7 → A 6 i = nI q → (q < 4 → A 20 j = 0) ∧ (q < 2 → A 19 j = 0) ∧ (q = 6 → A 21 j = 0)
def i7_ (no : Nat) (A : st_A) : Prop := ∀ i, no ≤ i → A 7 i = 0 ∧ A 10 i = 0
def i8_ (nl : Nat) (A : st_A) : Prop := ∀ j, nl ≤ j → A 18 j = 0 ∧ A 19 j = 0 ∧ A 20 j = 0 ∧ A 22 j = 0
theorem st_I_mk {no nl : Nat} {A : st_A} (h1 : no ≤ 20 ∧ nl ≤ 60) (h2 : i2_ no nl A) (h3 : i3_ no nl A) (h4 : i4_ no A) (h5 : ∀ j, j < nl → i5_1 A j) (h6 : i6_ no nl A) (h7 : i7_ no A) (h8 : i8_ nl A) : st_I no nl A := ⟨h1, h2, h3, h4, h5, h6, h7, h8⟩
section INV
variable {no nl : Nat} {A A' : st_A}
theorem i2_c (h : i2_ no nl A) (e13 : ∀ y, A' 13 y = A 13 y) (e10 : ∀ y, A' 10 y = A 10 y) (e11 : ∀ y, A' 11 y = A 11 y) : i2_ no nl A' := by
  unfold i2_
  simp only [e13, e10, e11]
  exact h
theorem i3_c (h : i3_ no nl A) (e13 : ∀ y, A' 13 y = A 13 y) (e10 : ∀ y, A' 10 y = A 10 y) (e11 : ∀ y, A' 11 y = A 11 y) : i3_ no nl A' := by
  unfold i3_
  simp only [e13, e10, e11]
  exact h
theorem i4_c (h : i4_ no A) (e6 : ∀ y, A' 6 y = A 6 y) (e7 : ∀ y, A' 7 y = A 7 y) (e10 : ∀ y, A' 10 y = A 10 y) : i4_ no A' := by
  unfold i4_
  simp only [e6, e7, e10]
  exact h
theorem i5_c {j : Nat} (h : i5_1 A j) (e : ∀ f, 14 ≤ f → A' f j = A f j) : i5_1 A' j := by
  unfold i5_1
  rw [e 17 (by decide), e 18 (by decide), e 19 (by decide), e 20 (by decide), e 14 (by decide), e 15 (by decide), e 16 (by decide), e 21 (by decide), e 22 (by decide)]
  exact h
theorem i6_c (h : i6_ no nl A) (e13 : ∀ y, A' 13 y = A 13 y) (e6 : ∀ y, A' 6 y = A 6 y) (e20 : ∀ y, A' 20 y = A 20 y) (e19 : ∀ y, A' 19 y = A 19 y) (e21 : ∀ y, A' 21 y = A 21 y) : i6_ no nl A' := by
  unfold i6_
  simp only [e13, e6, e20, e19, e21]
  exact h
theorem i7_c (h : i7_ no A) (e7 : ∀ y, no ≤ y → A' 7 y = A 7 y) (e10 : ∀ y, no ≤ y → A' 10 y = A 10 y) : i7_ no A' := fun y hy => by rw [e7 y hy, e10 y hy]; exact h y hy
theorem i8_c (h : i8_ nl A) (e : ∀ f y, nl ≤ y → f = 18 ∨ f = 19 ∨ f = 20 ∨ f = 22 → A' f y = A f y) : i8_ nl A' := fun y hy => by
  rw [e 18 y hy (by decide), e 19 y hy (by decide), e 20 y hy (by decide), e 22 y hy (by decide)]
  exact h y hy
/-- the version alone -/
theorem I_8 (hI : st_I no nl A) {i : Nat} {v : Int32} : st_I no nl (st_up A 8 i v) := by
  obtain ⟨h1, h2, h3, h4, h5, h6, h7, h8⟩ := hI
  have e : ∀ f y, f ≠ 8 → st_up A 8 i v f y = A f y := fun f y hf => st_up_n hf
  exact st_I_mk h1 (i2_c h2 (fun y => e 13 y (by decide)) (fun y => e 10 y (by decide)) (fun y => e 11 y (by decide))) (i3_c h3 (fun y => e 13 y (by decide)) (fun y => e 10 y (by decide)) (fun y => e 11 y (by decide))) (i4_c h4 (fun y => e 6 y (by decide)) (fun y => e 7 y (by decide)) (fun y => e 10 y (by decide))) (fun j hj => i5_c (h5 j hj) (fun f hf => e f j (by omega))) (i6_c h6 (fun y => e 13 y (by decide)) (fun y => e 6 y (by decide)) (fun y => e 20 y (by decide)) (fun y => e 19 y (by decide)) (fun y => e 21 y (by decide))) (i7_c h7 (fun y _ => e 7 y (by decide)) (fun y _ => e 10 y (by decide))) (i8_c h8 (fun f y _ hf => e f y (by omega)))
/-- an order's day, or where it went -/
theorem I_59 (hI : st_I no nl A) {i g : Nat} {v : Int32} (hg : g = 5 ∨ g = 9) : st_I no nl (st_up A g i v) := by
  obtain ⟨h1, h2, h3, h4, h5, h6, h7, h8⟩ := hI
  have e : ∀ f y, f ≠ 5 → f ≠ 9 → st_up A g i v f y = A f y := fun f y hf hf' => st_up_n (by omega)
  exact st_I_mk h1 (i2_c h2 (fun y => e 13 y (by decide) (by decide)) (fun y => e 10 y (by decide) (by decide)) (fun y => e 11 y (by decide) (by decide))) (i3_c h3 (fun y => e 13 y (by decide) (by decide)) (fun y => e 10 y (by decide) (by decide)) (fun y => e 11 y (by decide) (by decide))) (i4_c h4 (fun y => e 6 y (by decide) (by decide)) (fun y => e 7 y (by decide) (by decide)) (fun y => e 10 y (by decide) (by decide))) (fun j hj => i5_c (h5 j hj) (fun f hf => e f j (by omega) (by omega))) (i6_c h6 (fun y => e 13 y (by decide) (by decide)) (fun y => e 6 y (by decide) (by decide)) (fun y => e 20 y (by decide) (by decide)) (fun y => e 19 y (by decide) (by decide)) (fun y => e 21 y (by decide) (by decide))) (i7_c h7 (fun y _ => e 7 y (by decide) (by decide)) (fun y _ => e 10 y (by decide) (by decide))) (i8_c h8 (fun f y _ hf => e f y (by omega) (by omega)))
/-- one line's numbers -/
theorem I_ln (hI : st_I no nl A) {j : Nat} (hj : j < nl) (e : ∀ f y, ¬ (14 ≤ f ∧ y = j) → A' f y = A f y) (h5' : i5_1 A' j) (h6' : ∀ i q, i < no → A 13 j = nI i → q ≤ 7 → A 6 i = nI q → (q < 4 → A' 20 j = 0) ∧ (q < 2 → A' 19 j = 0) ∧ (q = 6 → A' 21 j = 0)) : st_I no nl A' := by
  obtain ⟨h1, h2, h3, h4, h5, h6, h7, h8⟩ := hI
  have e' : ∀ f y, f < 14 → A' f y = A f y := fun f y hf => e f y (fun z => by omega)
  refine st_I_mk h1 (i2_c h2 (fun y => e' 13 y (by decide)) (fun y => e' 10 y (by decide)) (fun y => e' 11 y (by decide))) (i3_c h3 (fun y => e' 13 y (by decide)) (fun y => e' 10 y (by decide)) (fun y => e' 11 y (by decide))) (i4_c h4 (fun y => e' 6 y (by decide)) (fun y => e' 7 y (by decide)) (fun y => e' 10 y (by decide))) (fun y hy => ?_) (fun y hy i q z1 z2 z3 z4 => ?_) (i7_c h7 (fun y _ => e' 7 y (by decide)) (fun y _ => e' 10 y (by decide))) (i8_c h8 (fun f y hy hf => e f y (fun z => by omega)))
  · by_cases c : y = j
    · subst c; exact h5'
    · exact i5_c (h5 y hy) (fun f _ => e f y (fun z => c z.2))
  · rw [e' 13 y (by decide)] at z2
    rw [e' 6 i (by decide)] at z4
    by_cases c : y = j
    · subst c; exact h6' i q z1 z2 z3 z4
    · rw [e 20 y (fun z => c z.2), e 19 y (fun z => c z.2), e 21 y (fun z => c z.2)]
      exact h6 y hy i q z1 z2 z3 z4
theorem I_of2 {x lo : Int32} {a b : Nat} (ha : lo = nI a) (hb : b < 2 ^ 31) (ha' : a < 2 ^ 31) (M : Int32) (hM : M = nI b) (h : lo ≤ x ∧ x ≤ M) : ∃ k : Nat, a ≤ k ∧ k ≤ b ∧ x = nI k := by
  subst ha hM
  have h0 : ¬ x < 0 := fun y => by
    have : nI a < 0 := Int32.lt_of_le_of_lt h.1 y
    exact nI_pos ha' this
  obtain ⟨k, hk, rfl⟩ := nI_of h0
  exact ⟨k, (nI_leI ha' hk).mp h.1, (nI_leI hk hb).mp h.2, rfl⟩
theorem I_hold (hI : st_I no nl A) {p n : Int32} : st_I (op_hold no nl A p n).2.2.1 (op_hold no nl A p n).2.2.2.1 (op_hold no nl A p n).2.2.2.2 := by
  rcases st_ix p (n := nl) (by have := hI.1; omega) with ⟨j, hj, rfl, i1, i2, i3, i4, i5⟩ | ⟨i1, i2, i3⟩
  rotate_left
  · rw [op_hold, if_pos i3]; exact hI
  rw [op_hold, if_neg (fun y => y.elim i3 i4), i5]
  unfold op_hold1
  by_cases c1 : ¬ (1 ≤ n ∧ n ≤ 1000)
  · rw [if_pos c1]; exact hI
  rw [if_neg c1]
  by_cases c2 : 1 < A 6 (st_h A j) ∨ A 21 j = 0 ∨ ¬ (A 18 j + n) ≤ A 17 j
  · rw [if_pos c2]; exact hI
  rw [if_neg c2]
  refine I_8 (I_ln hI hj (fun f y z => ?_) ?_ ?_)
  · by_cases c : y = j
    · exact st_up_n (by omega)
    · exact st_sn c
  · obtain ⟨w, h, pp, s, g, t, r, z1, z2, z3, z4, z5, z6, z7, z8, z9⟩ := (id hI : _).2.2.2.2.1 j hj
    obtain ⟨k, k1, k2, rfl⟩ := I_of2 (a := 1) (b := 1000) rfl (by decide) (by decide) 1000 rfl (Classical.not_not.mp c1)
    have c3 : (A 18 j + nI k) ≤ A 17 j := Classical.not_not.mp (fun y => c2 (Or.inr (Or.inr y)))
    rw [z5, z6, nI_add] at c3
    have c4 := (nI_leI (a := h + k) (b := w) (by omega) (by omega)).mp c3
    refine ⟨w, h + k, pp, s, g, t, r, by omega, c4, z3, z4, ?_⟩
    simp (config := { decide := true }) only [st_up_s, st_up_n, ne_eq, not_false_eq_true]
    exact ⟨z5, by rw [z6, nI_add], z7, z8, z9⟩
  · intro i q z1 z2 z3 z4
    simp (config := { decide := true }) only [st_up_s, st_up_n, ne_eq, not_false_eq_true]
    exact (id hI : _).2.2.2.2.2.1 j hj i q z1 z2 z3 z4
theorem I_pick (hI : st_I no nl A) {p n : Int32} : st_I (op_pick no nl A p n).2.2.1 (op_pick no nl A p n).2.2.2.1 (op_pick no nl A p n).2.2.2.2 := by
  rcases st_ix p (n := nl) (by have := hI.1; omega) with ⟨j, hj, rfl, i1, i2, i3, i4, i5⟩ | ⟨i1, i2, i3⟩
  rotate_left
  · rw [op_pick, if_pos i3]; exact hI
  rw [op_pick, if_neg (fun y => y.elim i3 i4), i5]
  unfold op_pick1
  by_cases c1 : ¬ (1 ≤ n ∧ n ≤ 1000)
  · rw [if_pos c1]; exact hI
  rw [if_neg c1]
  by_cases c2 : ¬ A 6 (st_h A j) = 2 ∨ ¬ A 7 (st_h A j) = 0 ∨ ¬ (A 19 j + n) ≤ A 18 j
  · rw [if_pos c2]; exact hI
  rw [if_neg c2]
  refine I_8 (I_ln hI hj (fun f y z => ?_) ?_ ?_)
  · by_cases c : y = j
    · exact st_up_n (by omega)
    · exact st_sn c
  · obtain ⟨w, h, pp, s, g, t, r, z1, z2, z3, z4, z5, z6, z7, z8, z9⟩ := (id hI : _).2.2.2.2.1 j hj
    obtain ⟨k, k1, k2, rfl⟩ := I_of2 (a := 1) (b := 1000) rfl (by decide) (by decide) 1000 rfl (Classical.not_not.mp c1)
    have c3 : (A 19 j + nI k) ≤ A 18 j := Classical.not_not.mp (fun y => c2 (Or.inr (Or.inr y)))
    rw [z7, z6, nI_add] at c3
    have c4 := (nI_leI (a := pp + k) (b := h) (by omega) (by omega)).mp c3
    refine ⟨w, h, pp + k, s, g, t, r, c4, z2, z3, z4, ?_⟩
    simp (config := { decide := true }) only [st_up_s, st_up_n, ne_eq, not_false_eq_true]
    exact ⟨z5, z6, by rw [z7, nI_add], z8, z9⟩
  · intro i q z1 z2 z3 z4
    simp (config := { decide := true }) only [st_up_s, st_up_n, ne_eq, not_false_eq_true]
    have h0 := (id hI : _).2.2.2.2.2.1 j hj i q z1 z2 z3 z4
    refine ⟨h0.1, fun y => ?_, h0.2.2⟩
    have c6 : A 6 (st_h A j) = 2 := Classical.not_not.mp (fun y => c2 (Or.inl y))
    have : st_h A j = i := by unfold st_h; rw [z2]; exact nI_clamp (by have := hI.1; omega)
    rw [this, z4] at c6
    have := (nI_eq (a := q) (b := 2) (by omega) (by omega)).mp c6
    omega
theorem I_move (hI : st_I no nl A) {p d : Int32} : st_I (op_move no nl A p d).2.2.1 (op_move no nl A p d).2.2.2.1 (op_move no nl A p d).2.2.2.2 := by
  unfold op_move op_move1
  split
  · exact hI
  · split
    · exact hI
    · split
      · exact hI
      · exact I_8 (I_59 hI (Or.inl rfl))
theorem I_block (hI : st_I no nl A) {p q b : Int32} : st_I (op_block no nl A p q b).2.2.1 (op_block no nl A p q b).2.2.2.1 (op_block no nl A p q b).2.2.2.2 := by
  rcases st_ix p (n := no) (by have := hI.1; omega) with ⟨i, hi, rfl, i1, i2, i3, i4, i5⟩ | ⟨i1, i2, i3⟩
  rotate_left
  · rw [op_block, if_pos i3]; exact hI
  rw [op_block, if_neg (fun y => y.elim i3 i4), i5]
  unfold op_block1
  by_cases c1 : ¬ (0 ≤ q ∧ q ≤ 7)
  · rw [if_pos c1]; exact hI
  rw [if_neg c1]
  generalize (if b = 0 then (0 : Int32) else 1) = bb
  by_cases c2 : 4 ≤ A 6 i ∨ ((A 7 i >>> (q &&& 31)) &&& 1) = bb
  · rw [if_pos c2]; exact hI
  rw [if_neg c2]
  show st_I no nl _
  refine I_8 ?_
  obtain ⟨h1, h2, h3, h4, h5, h6, h7, h8⟩ := hI
  obtain ⟨k, k1, k2, rfl⟩ := I_of2 (a := 0) (b := 7) rfl (by decide) (by decide) 7 rfl (Classical.not_not.mp c1)
  have e : ∀ f y, f ≠ 7 → st_up A 7 i (A 7 i ^^^ (1 <<< (nI k &&& 31))) f y = A f y := fun f y hf => st_up_n hf
  refine st_I_mk h1 (i2_c h2 (fun y => e 13 y (by decide)) (fun y => e 10 y (by decide)) (fun y => e 11 y (by decide))) (i3_c h3 (fun y => e 13 y (by decide)) (fun y => e 10 y (by decide)) (fun y => e 11 y (by decide))) (fun y hy => ?_) (fun j hj => i5_c (h5 j hj) (fun f hf => e f j (by omega))) (i6_c h6 (fun y => e 13 y (by decide)) (fun y => e 6 y (by decide)) (fun y => e 20 y (by decide)) (fun y => e 19 y (by decide)) (fun y => e 21 y (by decide))) (i7_c h7 (fun y hy => st_up_j (by omega)) (fun y _ => e 10 y (by decide))) (i8_c h8 (fun f y _ hf => e f y (by omega)))
  obtain ⟨qq, b, z1, z2, z3, z4, z5⟩ := h4 y hy
  by_cases c : y = i
  · subst c
    obtain ⟨cc, hcc⟩ := pb_xo ⟨b, z3⟩ ⟨k, by omega⟩
    refine ⟨qq, cc.val, z1, by rw [e 6 y (by decide)]; exact z2, cc.isLt, ?_, by rw [e 10 y (by decide)]; exact z5⟩
    rw [st_up_s, z4]
    exact hcc
  · exact ⟨qq, b, z1, by rw [e 6 y (by decide)]; exact z2, z3, by rw [st_up_j c]; exact z4, by rw [e 10 y (by decide)]; exact z5⟩
end INV
