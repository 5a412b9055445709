/-! THE REFERENCE: its loops -/
theorem st_ship_n {A : st_A} {i g j : Nat} (e : g ≠ 20) : ∀ k, st_ship A i k g j = A g j := by
  intro k
  induction k with
  | zero => rfl
  | succ k ih => rw [st_ship, st_up_n e, ih]
/-- the lines of the order i are lines -/
def sl_ok (A : st_A) (i s : Nat) : Prop := i < 20 ∧ s ≤ 8 ∧ A 10 i = nI s ∧ ∀ k, k < s → ∃ j, j < 60 ∧ A 11 (8 * i + k) = nI j
theorem sl_ok_of {no nl : Nat} {A : st_A} (hI : st_I no nl A) {i : Nat} (hi : i < no) : ∃ s, sl_ok A i s := by
  obtain ⟨s, hs, h1, h2, -, h3, -⟩ := st_I_10 hI hi
  exact ⟨s, h1, hs, h2, fun k hk => (h3 k hk).elim (fun j z => ⟨j, z.2.1, z.2.2.1⟩)⟩
theorem sl_ok.at {A : st_A} {i s k : Nat} (hl : sl_ok A i s) (hk : k < s) : ∃ j, j < 60 ∧ A 11 (8 * i + k) = nI j ∧ st_l A i k = j ∧ (nI j).toNatClampNeg = j ∧ ¬ nI j < 0 ∧ 8 * i + k < 160 ∧ (nI (8 * i + k)).toNatClampNeg = 8 * i + k ∧ ¬ nI (8 * i + k) < 0 := by
  obtain ⟨h1, h2, -, h3⟩ := hl
  obtain ⟨j, z1, z2⟩ := h3 k hk
  exact ⟨j, z1, z2, st_l_of z2 z1, nI_clamp (by omega), nI_pos (by omega), by omega, nI_clamp (by omega), nI_pos (by omega)⟩
section R3
variable {l : Launch} {G : ev_G} {m : Nat} {ma : Nat → Nat} {c no nl : Int32} {A : st_A} {h : ev_AH}
theorem rp_live_4 (hg : rm_ok m ma) {i s : Nat} (hl : sl_ok A i s) : ∀ d k a : Nat, k + d = s → Ev l G M_R_liveLines 4 [(0, .ref m), (1, .int (nI i)), (2, .int (nI a)), (3, .int (nI k))] [] (RH m ma c no nl A h) 0 0 (ev_fin G M_R_liveLines (ev_pi (fun q h' => nI (st_cnt (fun k => decide (¬ A 21 (st_l A i k) = 0)) d k a) = q ∧ RH m ma c no nl A h = h') (fun _ _ => False))) := by
  have hl' := hl
  obtain ⟨h1, h2, h3, h4⟩ := hl
  have k1 : (nI i).toNatClampNeg = i := nI_clamp (by omega)
  have k2 : ¬ nI i < 0 := nI_pos (by omega)
  intro d
  induction d with
  | zero =>
    intro k a e
    obtain rfl : k = s := by omega
    refine vR_liveLines_4 ?_
    simp only [rh_fs, rh_s0, rh_s1, rh_s12, rh_0, rh_1, rh_2, rh_3, rh_4, rh_5, rh_6, rh_7, rh_8, rh_9, rh_10, rh_11, rh_12, rh_13, rh_14, rh_15, rh_16, rh_17, rh_18, rh_19, rh_20, rh_21, rh_22, rr_2 hg, rs_2 hg, ra_2 hg, rr_3 hg, rs_3 hg, ra_3 hg, rr_4 hg, rs_4 hg, ra_4 hg, rr_5 hg, rs_5 hg, ra_5 hg, rr_6 hg, rs_6 hg, ra_6 hg, rr_7 hg, rs_7 hg, ra_7 hg, rr_8 hg, rs_8 hg, ra_8 hg, rr_9 hg, rs_9 hg, ra_9 hg, rr_10 hg, rs_10 hg, ra_10 hg, rr_11 hg, rs_11 hg, ra_11 hg, rr_13 hg, rs_13 hg, ra_13 hg, rr_14 hg, rs_14 hg, ra_14 hg, rr_15 hg, rs_15 hg, ra_15 hg, rr_16 hg, rs_16 hg, ra_16 hg, rr_17 hg, rs_17 hg, ra_17 hg, rr_18 hg, rs_18 hg, ra_18 hg, rr_19 hg, rs_19 hg, ra_19 hg, rr_20 hg, rs_20 hg, ra_20 hg, rr_21 hg, rs_21 hg, ra_21 hg, rr_22 hg, rs_22 hg, ra_22 hg, Option.some.injEq, Value.int.injEq, Value.ref.injEq, exists_eq_left', exists_eq_left, exists_eq', exists_and_left, and_assoc, true_and, forall_eq, forall_eq', not_false_eq_true, true_implies, and_true, ev_b0, Classical.not_not]
    simp (config := { decide := true }) only [k1, k2, h1, h3, Int32.le_refl, st_cnt, st_up_s, st_up_n, ne_eq, not_false_eq_true, not_true_eq_false, true_and, and_true, and_self, or_self, or_false, false_or, or_true, true_or, false_and, and_false, if_false, if_true, true_implies, false_implies, implies_true, exists_eq_left', exists_eq_left, forall_eq, forall_eq', ev_b0, Classical.not_not, reduceIte]
    all_goals first | exact ⟨rfl, rfl⟩ | exact ⟨rfl, fun _ => rfl⟩ | exact ⟨rfl, rfl, rfl⟩
    | succ d ih =>
    intro k a e
    have hk : ¬ nI s ≤ nI k := nI_ge (by omega) (by omega)
    obtain ⟨j, j1, j2, j3, j4, j5, j6, j7, j8⟩ := hl'.at (k := k) (by omega)
    refine vR_liveLines_4 ?_
    simp only [rh_fs, rh_s0, rh_s1, rh_s12, rh_0, rh_1, rh_2, rh_3, rh_4, rh_5, rh_6, rh_7, rh_8, rh_9, rh_10, rh_11, rh_12, rh_13, rh_14, rh_15, rh_16, rh_17, rh_18, rh_19, rh_20, rh_21, rh_22, rr_2 hg, rs_2 hg, ra_2 hg, rr_3 hg, rs_3 hg, ra_3 hg, rr_4 hg, rs_4 hg, ra_4 hg, rr_5 hg, rs_5 hg, ra_5 hg, rr_6 hg, rs_6 hg, ra_6 hg, rr_7 hg, rs_7 hg, ra_7 hg, rr_8 hg, rs_8 hg, ra_8 hg, rr_9 hg, rs_9 hg, ra_9 hg, rr_10 hg, rs_10 hg, ra_10 hg, rr_11 hg, rs_11 hg, ra_11 hg, rr_13 hg, rs_13 hg, ra_13 hg, rr_14 hg, rs_14 hg, ra_14 hg, rr_15 hg, rs_15 hg, ra_15 hg, rr_16 hg, rs_16 hg, ra_16 hg, rr_17 hg, rs_17 hg, ra_17 hg, rr_18 hg, rs_18 hg, ra_18 hg, rr_19 hg, rs_19 hg, ra_19 hg, rr_20 hg, rs_20 hg, ra_20 hg, rr_21 hg, rs_21 hg, ra_21 hg, rr_22 hg, rs_22 hg, ra_22 hg, Option.some.injEq, Value.int.injEq, Value.ref.injEq, exists_eq_left', exists_eq_left, exists_eq', exists_and_left, and_assoc, true_and, forall_eq, forall_eq', not_false_eq_true, true_implies, and_true, ev_b0, Classical.not_not]
    simp (config := { decide := true }) only [k1, k2, h1, h3, hk, nI_8k, j1, j2, j3, j4, j5, j6, j7, j8, nI_1, st_cnt, Int32.add_zero, st_up_s, st_up_n, ne_eq, not_false_eq_true, not_true_eq_false, true_and, and_true, and_self, or_self, or_false, false_or, or_true, true_or, false_and, and_false, if_false, if_true, true_implies, false_implies, implies_true, exists_eq_left', exists_eq_left, forall_eq, forall_eq', ev_b0, Classical.not_not, reduceIte]
    by_cases c1 : A 21 j = 0
    · simp (config := { decide := true }) only [c1, st_up_s, st_up_n, ne_eq, not_false_eq_true, not_true_eq_false, true_and, and_true, and_self, or_self, or_false, false_or, or_true, true_or, false_and, and_false, if_false, if_true, true_implies, false_implies, implies_true, exists_eq_left', exists_eq_left, forall_eq, forall_eq', ev_b0, Classical.not_not, reduceIte]
      exact ih (k + 1) a (by omega)
    · simp (config := { decide := true }) only [c1, st_up_s, st_up_n, ne_eq, not_false_eq_true, not_true_eq_false, true_and, and_true, and_self, or_self, or_false, false_or, or_true, true_or, false_and, and_false, if_false, if_true, true_implies, false_implies, implies_true, exists_eq_left', exists_eq_left, forall_eq, forall_eq', ev_b0, Classical.not_not, reduceIte]
      exact ih (k + 1) (a + 1) (by omega)
theorem rp_liveLines (hg : rm_ok m ma) {i s : Nat} (hl : sl_ok A i s) : Mt l G M_R_liveLines [.ref m, .int (nI i)] (RH m ma c no nl A h) (ev_pi (fun q h' => nI (st_live A i) = q ∧ RH m ma c no nl A h = h') (fun _ _ => False)) := by
  refine vR_liveLines ?_
  have := rp_live_4 (l := l) (G := G) (c := c) (no := no) (nl := nl) (h := h) hg hl s 0 0 (by omega)
  unfold st_live
  rw [st_s_of hl.2.2.1 hl.2.1]
  exact this
theorem rp_bits_4 {v : Int32} {h : ev_AH} : ∀ (d k : Nat) (a : Int32), k + d = 8 → Ev l G M_R_bits 4 [(0, .int v), (1, .int a), (2, .int (nI k))] [] h 0 0 (ev_fin G M_R_bits (ev_pi (fun q h' => st_sum (fun k => (v >>> (nI k &&& 31)) &&& 1) d k a = q ∧ h = h') (fun _ _ => False))) := by
  intro d
  induction d with
  | zero =>
    intro k a e
    obtain rfl : k = 8 := by omega
    exact vR_bits_4 ⟨fun _ => ⟨rfl, rfl⟩, fun z => absurd (by decide) z⟩
  | succ d ih =>
    intro k a e
    refine vR_bits_4 ⟨fun z => absurd z (nI_ge (b := 8) (by omega) (by omega)), fun _ x1 e1 x2 e2 => ?_⟩
    rw [nI_1] at e2
    subst e1 e2
    exact ih (k + 1) _ (by omega)
theorem rp_bits {v : Int32} {h : ev_AH} : Mt l G M_R_bits [.int v] h (ev_pi (fun q h' => st_bits v = q ∧ h = h') (fun _ _ => False)) := vR_bits (rp_bits_4 8 0 0 rfl)
theorem st_c6 (x : Int32) : x = 0 ∨ x = 2 ∨ x = 4 ∨ (¬ x = 0 ∧ ¬ x = 2 ∧ ¬ x = 4) := by
  by_cases h0 : x = 0
  · exact Or.inl h0
  · by_cases h1 : x = 2
    · exact Or.inr (Or.inl h1)
    · by_cases h2 : x = 4
      · exact Or.inr (Or.inr (Or.inl h2))
      · exact Or.inr (Or.inr (Or.inr ⟨h0, h1, h2⟩))
theorem st_find_and {p : Nat → Bool} {d k : Nat} {b : Bool} : (b && decide (st_find p (d + 1) k = none)) = ((b && !p k) && decide (st_find p d (k + 1) = none)) := by
  rw [st_find]
  cases p k <;> cases b <;> simp
theorem rp_may_44 (hg : rm_ok m ma) {i s : Nat} (hl : sl_ok A i s) : ∀ (d k : Nat) (b : Bool), k + d = s → Ev l G M_R_mayGoOn 44 [(0, .ref m), (1, .int (nI i)), (2, .int (st_b b)), (3, .int (nI k))] [] (RH m ma c no nl A h) 0 0 (ev_fin G M_R_mayGoOn (ev_pi (fun q h' => st_b (b && decide (st_find (fun k => !st_ok A i (st_l A i k)) d k = none)) = q ∧ RH m ma c no nl A h = h') (fun _ _ => False))) := by
  have hl' := hl
  obtain ⟨h1, h2, h3, h4⟩ := hl
  have k1 : (nI i).toNatClampNeg = i := nI_clamp (by omega)
  have k2 : ¬ nI i < 0 := nI_pos (by omega)
  intro d
  induction d with
  | zero =>
    intro k b e
    obtain rfl : k = s := by omega
    refine vR_mayGoOn_44 ?_
    simp only [rh_fs, rh_s0, rh_s1, rh_s12, rh_0, rh_1, rh_2, rh_3, rh_4, rh_5, rh_6, rh_7, rh_8, rh_9, rh_10, rh_11, rh_12, rh_13, rh_14, rh_15, rh_16, rh_17, rh_18, rh_19, rh_20, rh_21, rh_22, rr_2 hg, rs_2 hg, ra_2 hg, rr_3 hg, rs_3 hg, ra_3 hg, rr_4 hg, rs_4 hg, ra_4 hg, rr_5 hg, rs_5 hg, ra_5 hg, rr_6 hg, rs_6 hg, ra_6 hg, rr_7 hg, rs_7 hg, ra_7 hg, rr_8 hg, rs_8 hg, ra_8 hg, rr_9 hg, rs_9 hg, ra_9 hg, rr_10 hg, rs_10 hg, ra_10 hg, rr_11 hg, rs_11 hg, ra_11 hg, rr_13 hg, rs_13 hg, ra_13 hg, rr_14 hg, rs_14 hg, ra_14 hg, rr_15 hg, rs_15 hg, ra_15 hg, rr_16 hg, rs_16 hg, ra_16 hg, rr_17 hg, rs_17 hg, ra_17 hg, rr_18 hg, rs_18 hg, ra_18 hg, rr_19 hg, rs_19 hg, ra_19 hg, rr_20 hg, rs_20 hg, ra_20 hg, rr_21 hg, rs_21 hg, ra_21 hg, rr_22 hg, rs_22 hg, ra_22 hg, Option.some.injEq, Value.int.injEq, Value.ref.injEq, exists_eq_left', exists_eq_left, exists_eq', exists_and_left, and_assoc, true_and, forall_eq, forall_eq', not_false_eq_true, true_implies, and_true, ev_b0, Classical.not_not]
    simp (config := { decide := true }) only [k1, k2, h1, h3, Int32.le_refl, st_find, Bool.and_true, st_up_s, st_up_n, ne_eq, not_false_eq_true, not_true_eq_false, true_and, and_true, and_self, or_self, or_false, false_or, or_true, true_or, false_and, and_false, if_false, if_true, true_implies, false_implies, implies_true, exists_eq_left', exists_eq_left, forall_eq, forall_eq', ev_b0, Classical.not_not, reduceIte]
    cases b <;> exact ⟨rfl, rfl, rfl⟩
  | succ d ih =>
    intro k b e
    have hk : ¬ nI s ≤ nI k := nI_ge (by omega) (by omega)
    obtain ⟨j, j1, j2, j3, j4, j5, j6, j7, j8⟩ := hl'.at (k := k) (by omega)
    rw [st_find_and]
    have ihT := ih (k + 1) true (by omega)
    have ihF := ih (k + 1) false (by omega)
    rw [show st_b true = 1 from rfl] at ihT
    rw [show st_b false = 0 from rfl] at ihF
    refine vR_mayGoOn_44 ?_
    simp only [rh_fs, rh_s0, rh_s1, rh_s12, rh_0, rh_1, rh_2, rh_3, rh_4, rh_5, rh_6, rh_7, rh_8, rh_9, rh_10, rh_11, rh_12, rh_13, rh_14, rh_15, rh_16, rh_17, rh_18, rh_19, rh_20, rh_21, rh_22, rr_2 hg, rs_2 hg, ra_2 hg, rr_3 hg, rs_3 hg, ra_3 hg, rr_4 hg, rs_4 hg, ra_4 hg, rr_5 hg, rs_5 hg, ra_5 hg, rr_6 hg, rs_6 hg, ra_6 hg, rr_7 hg, rs_7 hg, ra_7 hg, rr_8 hg, rs_8 hg, ra_8 hg, rr_9 hg, rs_9 hg, ra_9 hg, rr_10 hg, rs_10 hg, ra_10 hg, rr_11 hg, rs_11 hg, ra_11 hg, rr_13 hg, rs_13 hg, ra_13 hg, rr_14 hg, rs_14 hg, ra_14 hg, rr_15 hg, rs_15 hg, ra_15 hg, rr_16 hg, rs_16 hg, ra_16 hg, rr_17 hg, rs_17 hg, ra_17 hg, rr_18 hg, rs_18 hg, ra_18 hg, rr_19 hg, rs_19 hg, ra_19 hg, rr_20 hg, rs_20 hg, ra_20 hg, rr_21 hg, rs_21 hg, ra_21 hg, rr_22 hg, rs_22 hg, ra_22 hg, Option.some.injEq, Value.int.injEq, Value.ref.injEq, exists_eq_left', exists_eq_left, exists_eq', exists_and_left, and_assoc, true_and, forall_eq, forall_eq', not_false_eq_true, true_implies, and_true, ev_b0, Classical.not_not]
    simp (config := { decide := true }) only [k1, k2, h1, h3, hk, nI_8k, j1, j2, j3, j4, j5, j6, j7, j8, nI_1, st_up_s, st_up_n, ne_eq, not_false_eq_true, not_true_eq_false, true_and, and_true, and_self, or_self, or_false, false_or, or_true, true_or, false_and, and_false, if_false, if_true, true_implies, false_implies, implies_true, exists_eq_left', exists_eq_left, forall_eq, forall_eq', ev_b0, Classical.not_not, reduceIte]
    have eo : (!(!st_ok A i j)) = st_ok A i j := Bool.not_not _
    rw [eo]
    by_cases c1 : A 21 j = 0
    · have eo2 : st_ok A i j = true := by unfold st_ok; simp [c1]
      rw [eo2, Bool.and_true]
      simp (config := { decide := true }) only [c1, st_up_s, st_up_n, ne_eq, not_false_eq_true, not_true_eq_false, true_and, and_true, and_self, or_self, or_false, false_or, or_true, true_or, false_and, and_false, if_false, if_true, true_implies, false_implies, implies_true, exists_eq_left', exists_eq_left, forall_eq, forall_eq', ev_b0, Classical.not_not, reduceIte]
      cases b
      · exact ihF
      · exact ihT
    · cases b
      · rw [Bool.false_and, show st_b false = 0 from rfl]
        rcases st_c6 (A 6 i) with c6 | c6 | c6 | ⟨c6, c7, c8⟩
        · simp (config := { decide := true }) only [c1, c6, st_up_s, st_up_n, ne_eq, not_false_eq_true, not_true_eq_false, true_and, and_true, and_self, or_self, or_false, false_or, or_true, true_or, false_and, and_false, if_false, if_true, true_implies, false_implies, implies_true, exists_eq_left', exists_eq_left, forall_eq, forall_eq', ev_b0, Classical.not_not, reduceIte]; exact ihF
        · simp (config := { decide := true }) only [c1, c6, st_up_s, st_up_n, ne_eq, not_false_eq_true, not_true_eq_false, true_and, and_true, and_self, or_self, or_false, false_or, or_true, true_or, false_and, and_false, if_false, if_true, true_implies, false_implies, implies_true, exists_eq_left', exists_eq_left, forall_eq, forall_eq', ev_b0, Classical.not_not, reduceIte]; exact ihF
        · simp (config := { decide := true }) only [c1, c6, st_up_s, st_up_n, ne_eq, not_false_eq_true, not_true_eq_false, true_and, and_true, and_self, or_self, or_false, false_or, or_true, true_or, false_and, and_false, if_false, if_true, true_implies, false_implies, implies_true, exists_eq_left', exists_eq_left, forall_eq, forall_eq', ev_b0, Classical.not_not, reduceIte]; exact ihF
        · simp (config := { decide := true }) only [c1, c6, c7, c8, st_up_s, st_up_n, ne_eq, not_false_eq_true, not_true_eq_false, true_and, and_true, and_self, or_self, or_false, false_or, or_true, true_or, false_and, and_false, if_false, if_true, true_implies, false_implies, implies_true, exists_eq_left', exists_eq_left, forall_eq, forall_eq', ev_b0, Classical.not_not, reduceIte]; exact ihF
      · rw [Bool.true_and, show st_b true = 1 from rfl]
        rcases st_c6 (A 6 i) with c6 | c6 | c6 | ⟨c6, c7, c8⟩
        · by_cases c2 : A 18 j = A 17 j ∨ (¬ (A 16 j &&& 1) = 0 ∧ 0 < A 18 j) ∨ ¬ (A 16 j &&& 4) = 0
          · rw [show st_ok A i j = true by unfold st_ok; simp [c1, c6, c2]]
            simp (config := { decide := true }) only [c1, c6, c2, st_up_s, st_up_n, ne_eq, not_false_eq_true, not_true_eq_false, true_and, and_true, and_self, or_self, or_false, false_or, or_true, true_or, false_and, and_false, if_false, if_true, true_implies, false_implies, implies_true, exists_eq_left', exists_eq_left, forall_eq, forall_eq', ev_b0, Classical.not_not, reduceIte]; exact ihT
          · rw [show st_ok A i j = false by unfold st_ok; simp [c1, c6, c2]]
            simp (config := { decide := true }) only [c1, c6, c2, st_up_s, st_up_n, ne_eq, not_false_eq_true, not_true_eq_false, true_and, and_true, and_self, or_self, or_false, false_or, or_true, true_or, false_and, and_false, if_false, if_true, true_implies, false_implies, implies_true, exists_eq_left', exists_eq_left, forall_eq, forall_eq', ev_b0, Classical.not_not, reduceIte]; exact ihF
        · by_cases c2 : A 19 j = A 18 j
          · rw [show st_ok A i j = true by unfold st_ok; simp [c1, c6, c2]]
            simp (config := { decide := true }) only [c1, c6, c2, st_up_s, st_up_n, ne_eq, not_false_eq_true, not_true_eq_false, true_and, and_true, and_self, or_self, or_false, false_or, or_true, true_or, false_and, and_false, if_false, if_true, true_implies, false_implies, implies_true, exists_eq_left', exists_eq_left, forall_eq, forall_eq', ev_b0, Classical.not_not, reduceIte]; exact ihT
          · rw [show st_ok A i j = false by unfold st_ok; simp [c1, c6, c2]]
            simp (config := { decide := true }) only [c1, c6, c2, st_up_s, st_up_n, ne_eq, not_false_eq_true, not_true_eq_false, true_and, and_true, and_self, or_self, or_false, false_or, or_true, true_or, false_and, and_false, if_false, if_true, true_implies, false_implies, implies_true, exists_eq_left', exists_eq_left, forall_eq, forall_eq', ev_b0, Classical.not_not, reduceIte]; exact ihF
        · by_cases c2 : (A 16 j &&& 4) = 0
          · rw [show st_ok A i j = true by unfold st_ok; simp [c1, c6, c2]]
            simp (config := { decide := true }) only [c1, c6, c2, st_up_s, st_up_n, ne_eq, not_false_eq_true, not_true_eq_false, true_and, and_true, and_self, or_self, or_false, false_or, or_true, true_or, false_and, and_false, if_false, if_true, true_implies, false_implies, implies_true, exists_eq_left', exists_eq_left, forall_eq, forall_eq', ev_b0, Classical.not_not, reduceIte]; exact ihT
          · by_cases c3 : A 17 j - A 20 j ≤ 0
            · have c3' : ¬ 0 < A 17 j - A 20 j := Int32.not_lt.mpr c3
              rw [show st_ok A i j = true by unfold st_ok; simp [c1, c6, c2, c3']]
              simp (config := { decide := true }) only [c1, c6, c2, c3, st_up_s, st_up_n, ne_eq, not_false_eq_true, not_true_eq_false, true_and, and_true, and_self, or_self, or_false, false_or, or_true, true_or, false_and, and_false, if_false, if_true, true_implies, false_implies, implies_true, exists_eq_left', exists_eq_left, forall_eq, forall_eq', ev_b0, Classical.not_not, reduceIte]; exact ihT
            · have c3' : 0 < A 17 j - A 20 j := Int32.not_le.mp c3
              by_cases c4 : A 22 j = 0
              · rw [show st_ok A i j = false by unfold st_ok; simp [c1, c6, c2, c3', c4]]
                simp (config := { decide := true }) only [c1, c6, c2, c3, c4, st_up_s, st_up_n, ne_eq, not_false_eq_true, not_true_eq_false, true_and, and_true, and_self, or_self, or_false, false_or, or_true, true_or, false_and, and_false, if_false, if_true, true_implies, false_implies, implies_true, exists_eq_left', exists_eq_left, forall_eq, forall_eq', ev_b0, Classical.not_not, reduceIte]; exact ihF
              · rw [show st_ok A i j = true by unfold st_ok; simp [c1, c6, c2, c3', c4]]
                simp (config := { decide := true }) only [c1, c6, c2, c3, c4, st_up_s, st_up_n, ne_eq, not_false_eq_true, not_true_eq_false, true_and, and_true, and_self, or_self, or_false, false_or, or_true, true_or, false_and, and_false, if_false, if_true, true_implies, false_implies, implies_true, exists_eq_left', exists_eq_left, forall_eq, forall_eq', ev_b0, Classical.not_not, reduceIte]; exact ihT
        · rw [show st_ok A i j = true by unfold st_ok; simp [c1, c6, c7, c8]]
          simp (config := { decide := true }) only [c1, c6, c7, c8, st_up_s, st_up_n, ne_eq, not_false_eq_true, not_true_eq_false, true_and, and_true, and_self, or_self, or_false, false_or, or_true, true_or, false_and, and_false, if_false, if_true, true_implies, false_implies, implies_true, exists_eq_left', exists_eq_left, forall_eq, forall_eq', ev_b0, Classical.not_not, reduceIte]; exact ihT
end R3
