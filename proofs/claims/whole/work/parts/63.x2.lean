/-! THE CLASS: loops over an order's lines -/
def sx_ok (B : st_A) (i s nl : Nat) : Prop := sl_ok B i s ∧ ∀ k, k < s → st_l B i k < nl
theorem sx_of {no nl : Nat} {A : st_A} (hI : st_I no nl A) {i : Nat} (hi : i < no) : ∃ s, sx_ok A i s nl := by
  obtain ⟨s, hs, h1, h2, -, h3, -⟩ := st_I_10 hI hi
  refine ⟨s, ⟨h1, hs, h2, fun k hk => (h3 k hk).elim (fun j z => ⟨j, z.2.1, z.2.2.1⟩)⟩, fun k hk => ?_⟩
  obtain ⟨j, z1, z2, z3, z4, z5⟩ := h3 k hk
  rw [z5]
  exact z1
theorem st_cnt_0 (p : Nat → Bool) : ∀ d k a : Nat, (st_find p d k = none → st_cnt p d k a = a) ∧ (¬ st_find p d k = none → a < st_cnt p d k a) := by
  intro d
  induction d with
  | zero => intro k a; exact ⟨fun _ => rfl, fun y => absurd rfl y⟩
  | succ d ih =>
    intro k a
    rw [st_find, st_cnt]
    cases e : p k
    · rw [if_neg Bool.false_ne_true, if_neg Bool.false_ne_true]
      exact ih (k + 1) a
    · rw [if_pos rfl, if_pos rfl]
      refine ⟨fun y => (by cases y), fun _ => ?_⟩
      by_cases z : st_find p d (k + 1) = none
      · rw [(ih (k + 1) (a + 1)).1 z]; omega
      · have := (ih (k + 1) (a + 1)).2 z; omega
theorem st_find_no {p : Nat → Bool} (hp : ∀ k, p k = false) : ∀ d k : Nat, st_find p d k = none := by
  intro d
  induction d with
  | zero => intro k; rfl
  | succ d ih => intro k; rw [st_find, hp k]; simp only [Bool.false_eq_true, if_false]; exact ih (k + 1)
theorem st_ok_4 {A : st_A} {i j : Nat} (c6 : A 6 i = 4) : st_ok A i j = !decide (¬ A 21 j = 0 ∧ ¬ (A 16 j &&& 4) = 0 ∧ 0 < A 17 j - A 20 j ∧ A 22 j = 0) := by
  unfold st_ok
  rw [c6]
  simp only [show ((4 : Int32) = 0) = False from eq_false (by decide), show ((4 : Int32) = 2) = False from eq_false (by decide), false_implies, decide_true, Bool.true_and, true_implies]
  by_cases a : A 21 j = 0 <;> by_cases b : (A 16 j &&& 4) = 0 <;> by_cases c : 0 < A 17 j - A 20 j <;> by_cases d : A 22 j = 0 <;> simp only [a, b, c, d] <;> decide
section X2
variable {l : Launch} {G : ev_G} {x ol ll : Nat} {oa la lo ow : Nat → Nat} {no nl : Nat} {A B : st_A} {h : ev_AH}
theorem xo_live_2 (hb : xb G x ol ll oa la lo ow no nl B h) (hno : no ≤ 20) (hnl : nl ≤ 60) {i s : Nat} (hi : i < no) (hs : sx_ok B i s nl) : ∀ d k : Nat, k + d = s → Ev l G M_O_hasLiveLine 2 [(0, .ref (oa i)), (1, .int (nI k))] [] (XH oa la lo no nl A h) 0 0 (ev_fin G M_O_hasLiveLine (ev_pi (fun q h' => q = st_b (st_find (fun k => decide (¬ A 21 (st_l B i k) = 0)) d k).isSome ∧ h' = XH oa la lo no nl A h) (fun _ _ => False))) := by
  have es := st_s_of hs.1.2.2.1 hs.1.2.1
  have h8 := hs.1.2.1
  intro d
  induction d with
  | zero =>
    intro k e
    obtain rfl : k = s := by omega
    refine vO_hasLiveLine_2 ?_
    simp (config := { decide := true }) only [hi, es, Int32.le_refl, xx_0 hb, xx_1 hb, xx_f hb, xo_f hb, xl_f hb, xg_o hb hno, xg_l hb hnl, xn_o hb, xn_l hb, xn_i hb, xg_i hb, xf_o hb, xf_l hb, xf_i hb, xo_0 hb, xo_1 hb, xo_2 hb, xo_3 hb, xo_4 hb, xo_5 hb, xo_6 hb, xo_7 hb, xo_8 hb, xo_9 hb, xl_0 hb, xl_1 hb, xl_2 hb, xl_3 hb, xl_4 hb, xl_5 hb, xl_6 hb, xl_7 hb, xl_8 hb, xl_9 hb, xl_10 hb, ws_5 hb, ws_6 hb, ws_7 hb, ws_8 hb, ws_9 hb, wl_3 hb, wl_4 hb, wl_5 hb, wl_6 hb, wl_7 hb, wl_8 hb, wl_9 hb, wl_10 hb, st_h_n, st_up_s, st_up_n, ne_eq, rg_and, rg_or, Option.some.injEq, Value.int.injEq, Value.ref.injEq, exists_eq_left', exists_eq_left, exists_eq', exists_and_left, and_assoc, true_and, forall_eq, forall_eq', not_false_eq_true, true_implies, and_true, ev_b0, Classical.not_not, st_up_s, st_up_n, ne_eq, not_false_eq_true, not_true_eq_false, true_and, and_true, and_self, or_self, or_false, false_or, or_true, true_or, false_and, and_false, if_false, if_true, true_implies, false_implies, implies_true, exists_eq_left', exists_eq_left, forall_eq, forall_eq', ev_b0, Classical.not_not, reduceIte]
    exact ⟨rfl, rfl⟩
  | succ d ih =>
    intro k e
    have hk : ¬ nI s ≤ nI k := nI_ge (by omega) (by omega)
    have hk' : k < s := by omega
    have hj := hs.2 k hk'
    refine vO_hasLiveLine_2 ?_
    simp (config := { decide := true }) only [hi, es, hk, hk', h8, hj, nI_1, xx_0 hb, xx_1 hb, xx_f hb, xo_f hb, xl_f hb, xg_o hb hno, xg_l hb hnl, xn_o hb, xn_l hb, xn_i hb, xg_i hb, xf_o hb, xf_l hb, xf_i hb, xo_0 hb, xo_1 hb, xo_2 hb, xo_3 hb, xo_4 hb, xo_5 hb, xo_6 hb, xo_7 hb, xo_8 hb, xo_9 hb, xl_0 hb, xl_1 hb, xl_2 hb, xl_3 hb, xl_4 hb, xl_5 hb, xl_6 hb, xl_7 hb, xl_8 hb, xl_9 hb, xl_10 hb, ws_5 hb, ws_6 hb, ws_7 hb, ws_8 hb, ws_9 hb, wl_3 hb, wl_4 hb, wl_5 hb, wl_6 hb, wl_7 hb, wl_8 hb, wl_9 hb, wl_10 hb, st_h_n, st_up_s, st_up_n, ne_eq, rg_and, rg_or, Option.some.injEq, Value.int.injEq, Value.ref.injEq, exists_eq_left', exists_eq_left, exists_eq', exists_and_left, and_assoc, true_and, forall_eq, forall_eq', not_false_eq_true, true_implies, and_true, ev_b0, Classical.not_not, st_up_s, st_up_n, ne_eq, not_false_eq_true, not_true_eq_false, true_and, and_true, and_self, or_self, or_false, false_or, or_true, true_or, false_and, and_false, if_false, if_true, true_implies, false_implies, implies_true, exists_eq_left', exists_eq_left, forall_eq, forall_eq', ev_b0, Classical.not_not, reduceIte]
    rw [st_find]
    by_cases c1 : A 21 (st_l B i k) = 0
    · simp (config := { decide := true }) only [c1, st_up_s, st_up_n, ne_eq, not_false_eq_true, not_true_eq_false, true_and, and_true, and_self, or_self, or_false, false_or, or_true, true_or, false_and, and_false, if_false, if_true, true_implies, false_implies, implies_true, exists_eq_left', exists_eq_left, forall_eq, forall_eq', ev_b0, Classical.not_not, reduceIte]
      exact ih (k + 1) (by omega)
    · simp (config := { decide := true }) only [c1, st_up_s, st_up_n, ne_eq, not_false_eq_true, not_true_eq_false, true_and, and_true, and_self, or_self, or_false, false_or, or_true, true_or, false_and, and_false, if_false, if_true, true_implies, false_implies, implies_true, exists_eq_left', exists_eq_left, forall_eq, forall_eq', ev_b0, Classical.not_not, reduceIte]
      exact ⟨rfl, rfl⟩
theorem xp_hasLive (hb : xb G x ol ll oa la lo ow no nl B h) (hno : no ≤ 20) (hnl : nl ≤ 60) {i s : Nat} (hi : i < no) (hs : sx_ok B i s nl) (e11 : ∀ y, A 11 y = B 11 y) (e10 : ∀ y, A 10 y = B 10 y) : Mt l G M_O_hasLiveLine [.ref (oa i)] (XH oa la lo no nl A h) (ev_pi (fun q h' => q = st_b (decide (0 < st_live A i)) ∧ h' = XH oa la lo no nl A h) (fun _ _ => False)) := by
  refine vO_hasLiveLine ?_
  have T := xo_live_2 (l := l) (A := A) hb hno hnl hi hs s 0 (by omega)
  have es : st_s A i = s := by unfold st_s; rw [e10]; exact st_s_of hs.1.2.2.1 hs.1.2.1
  have el : ∀ k, st_l A i k = st_l B i k := fun k => by unfold st_l; rw [e11]
  have e : (st_find (fun k => decide (¬ A 21 (st_l B i k) = 0)) s 0).isSome = decide (0 < st_live A i) := by
    unfold st_live
    rw [es]
    simp only [el]
    obtain ⟨z1, z2⟩ := st_cnt_0 (fun k => decide (¬ A 21 (st_l B i k) = 0)) s 0 0
    cases hf : st_find (fun k => decide (¬ A 21 (st_l B i k) = 0)) s 0 with
    | none => rw [z1 hf]; rfl
    | some v => exact (decide_eq_true (z2 (by rw [hf]; intro y; cases y))).symm
  rw [e] at T
  exact T
theorem xo_ready_2 (hb : xb G x ol ll oa la lo ow no nl A h) (hno : no ≤ 20) (hnl : nl ≤ 60) {i s : Nat} (hi : i < no) (hs : sx_ok A i s nl) (c6 : A 6 i = 0) : ∀ d k : Nat, k + d = s → Ev l G M_O_eachLiveLineIsReady 2 [(0, .ref (oa i)), (1, .int (nI k))] [] (XH oa la lo no nl A h) 0 0 (ev_fin G M_O_eachLiveLineIsReady (ev_pi (fun q h' => q = st_b (decide (st_find (fun k => !st_ok A i (st_l A i k)) d k = none)) ∧ h' = XH oa la lo no nl A h) (fun _ _ => False))) := by
  have es := st_s_of hs.1.2.2.1 hs.1.2.1
  have h8 := hs.1.2.1
  intro d
  induction d with
  | zero =>
    intro k e
    obtain rfl : k = s := by omega
    refine vO_eachLiveLineIsReady_2 ?_
    simp (config := { decide := true }) only [hi, es, Int32.le_refl, xx_0 hb, xx_1 hb, xx_f hb, xo_f hb, xl_f hb, xg_o hb hno, xg_l hb hnl, xn_o hb, xn_l hb, xn_i hb, xg_i hb, xf_o hb, xf_l hb, xf_i hb, xo_0 hb, xo_1 hb, xo_2 hb, xo_3 hb, xo_4 hb, xo_5 hb, xo_6 hb, xo_7 hb, xo_8 hb, xo_9 hb, xl_0 hb, xl_1 hb, xl_2 hb, xl_3 hb, xl_4 hb, xl_5 hb, xl_6 hb, xl_7 hb, xl_8 hb, xl_9 hb, xl_10 hb, ws_5 hb, ws_6 hb, ws_7 hb, ws_8 hb, ws_9 hb, wl_3 hb, wl_4 hb, wl_5 hb, wl_6 hb, wl_7 hb, wl_8 hb, wl_9 hb, wl_10 hb, st_h_n, st_up_s, st_up_n, ne_eq, rg_and, rg_or, Option.some.injEq, Value.int.injEq, Value.ref.injEq, exists_eq_left', exists_eq_left, exists_eq', exists_and_left, and_assoc, true_and, forall_eq, forall_eq', not_false_eq_true, true_implies, and_true, ev_b0, Classical.not_not, st_up_s, st_up_n, ne_eq, not_false_eq_true, not_true_eq_false, true_and, and_true, and_self, or_self, or_false, false_or, or_true, true_or, false_and, and_false, if_false, if_true, true_implies, false_implies, implies_true, exists_eq_left', exists_eq_left, forall_eq, forall_eq', ev_b0, Classical.not_not, reduceIte]
    exact ⟨rfl, rfl⟩
  | succ d ih =>
    intro k e
    have hk : ¬ nI s ≤ nI k := nI_ge (by omega) (by omega)
    have hk' : k < s := by omega
    have hj := hs.2 k hk'
    refine vO_eachLiveLineIsReady_2 ?_
    simp (config := { decide := true }) only [hi, es, hk, hk', h8, hj, nI_1, xx_0 hb, xx_1 hb, xx_f hb, xo_f hb, xl_f hb, xg_o hb hno, xg_l hb hnl, xn_o hb, xn_l hb, xn_i hb, xg_i hb, xf_o hb, xf_l hb, xf_i hb, xo_0 hb, xo_1 hb, xo_2 hb, xo_3 hb, xo_4 hb, xo_5 hb, xo_6 hb, xo_7 hb, xo_8 hb, xo_9 hb, xl_0 hb, xl_1 hb, xl_2 hb, xl_3 hb, xl_4 hb, xl_5 hb, xl_6 hb, xl_7 hb, xl_8 hb, xl_9 hb, xl_10 hb, ws_5 hb, ws_6 hb, ws_7 hb, ws_8 hb, ws_9 hb, wl_3 hb, wl_4 hb, wl_5 hb, wl_6 hb, wl_7 hb, wl_8 hb, wl_9 hb, wl_10 hb, st_h_n, st_up_s, st_up_n, ne_eq, rg_and, rg_or, Option.some.injEq, Value.int.injEq, Value.ref.injEq, exists_eq_left', exists_eq_left, exists_eq', exists_and_left, and_assoc, true_and, forall_eq, forall_eq', not_false_eq_true, true_implies, and_true, ev_b0, Classical.not_not, st_up_s, st_up_n, ne_eq, not_false_eq_true, not_true_eq_false, true_and, and_true, and_self, or_self, or_false, false_or, or_true, true_or, false_and, and_false, if_false, if_true, true_implies, false_implies, implies_true, exists_eq_left', exists_eq_left, forall_eq, forall_eq', ev_b0, Classical.not_not, reduceIte]
    rw [st_find]
    by_cases c1 : A 21 (st_l A i k) = 0
    · rw [show st_ok A i (st_l A i k) = true by unfold st_ok; simp [c1]]
      simp (config := { decide := true }) only [c1, Bool.not_true, Bool.false_eq_true, st_up_s, st_up_n, ne_eq, not_false_eq_true, not_true_eq_false, true_and, and_true, and_self, or_self, or_false, false_or, or_true, true_or, false_and, and_false, if_false, if_true, true_implies, false_implies, implies_true, exists_eq_left', exists_eq_left, forall_eq, forall_eq', ev_b0, Classical.not_not, reduceIte]
      exact ih (k + 1) (by omega)
    · by_cases c2 : A 18 (st_l A i k) = A 17 (st_l A i k) ∨ (¬ (A 16 (st_l A i k) &&& 1) = 0 ∧ 0 < A 18 (st_l A i k)) ∨ ¬ (A 16 (st_l A i k) &&& 4) = 0
      · rw [show st_ok A i (st_l A i k) = true by unfold st_ok; simp [c1, c6, c2]]
        simp (config := { decide := true }) only [c1, c2, Bool.not_true, Bool.false_eq_true, st_up_s, st_up_n, ne_eq, not_false_eq_true, not_true_eq_false, true_and, and_true, and_self, or_self, or_false, false_or, or_true, true_or, false_and, and_false, if_false, if_true, true_implies, false_implies, implies_true, exists_eq_left', exists_eq_left, forall_eq, forall_eq', ev_b0, Classical.not_not, reduceIte]
        exact ih (k + 1) (by omega)
      · rw [show st_ok A i (st_l A i k) = false by unfold st_ok; simp [c1, c6, c2]]
        simp (config := { decide := true }) only [c1, c2, Bool.not_false, st_up_s, st_up_n, ne_eq, not_false_eq_true, not_true_eq_false, true_and, and_true, and_self, or_self, or_false, false_or, or_true, true_or, false_and, and_false, if_false, if_true, true_implies, false_implies, implies_true, exists_eq_left', exists_eq_left, forall_eq, forall_eq', ev_b0, Classical.not_not, reduceIte]
        exact ⟨rfl, rfl⟩
theorem xo_picked_2 (hb : xb G x ol ll oa la lo ow no nl A h) (hno : no ≤ 20) (hnl : nl ≤ 60) {i s : Nat} (hi : i < no) (hs : sx_ok A i s nl) (c6 : A 6 i = 2) : ∀ d k : Nat, k + d = s → Ev l G M_O_allHeldIsPicked 2 [(0, .ref (oa i)), (1, .int (nI k))] [] (XH oa la lo no nl A h) 0 0 (ev_fin G M_O_allHeldIsPicked (ev_pi (fun q h' => q = st_b (decide (st_find (fun k => !st_ok A i (st_l A i k)) d k = none)) ∧ h' = XH oa la lo no nl A h) (fun _ _ => False))) := by
  have es := st_s_of hs.1.2.2.1 hs.1.2.1
  have h8 := hs.1.2.1
  intro d
  induction d with
  | zero =>
    intro k e
    obtain rfl : k = s := by omega
    refine vO_allHeldIsPicked_2 ?_
    simp (config := { decide := true }) only [hi, es, Int32.le_refl, xx_0 hb, xx_1 hb, xx_f hb, xo_f hb, xl_f hb, xg_o hb hno, xg_l hb hnl, xn_o hb, xn_l hb, xn_i hb, xg_i hb, xf_o hb, xf_l hb, xf_i hb, xo_0 hb, xo_1 hb, xo_2 hb, xo_3 hb, xo_4 hb, xo_5 hb, xo_6 hb, xo_7 hb, xo_8 hb, xo_9 hb, xl_0 hb, xl_1 hb, xl_2 hb, xl_3 hb, xl_4 hb, xl_5 hb, xl_6 hb, xl_7 hb, xl_8 hb, xl_9 hb, xl_10 hb, ws_5 hb, ws_6 hb, ws_7 hb, ws_8 hb, ws_9 hb, wl_3 hb, wl_4 hb, wl_5 hb, wl_6 hb, wl_7 hb, wl_8 hb, wl_9 hb, wl_10 hb, st_h_n, st_up_s, st_up_n, ne_eq, rg_and, rg_or, Option.some.injEq, Value.int.injEq, Value.ref.injEq, exists_eq_left', exists_eq_left, exists_eq', exists_and_left, and_assoc, true_and, forall_eq, forall_eq', not_false_eq_true, true_implies, and_true, ev_b0, Classical.not_not, st_up_s, st_up_n, ne_eq, not_false_eq_true, not_true_eq_false, true_and, and_true, and_self, or_self, or_false, false_or, or_true, true_or, false_and, and_false, if_false, if_true, true_implies, false_implies, implies_true, exists_eq_left', exists_eq_left, forall_eq, forall_eq', ev_b0, Classical.not_not, reduceIte]
    exact ⟨rfl, rfl⟩
  | succ d ih =>
    intro k e
    have hk : ¬ nI s ≤ nI k := nI_ge (by omega) (by omega)
    have hk' : k < s := by omega
    have hj := hs.2 k hk'
    refine vO_allHeldIsPicked_2 ?_
    simp (config := { decide := true }) only [hi, es, hk, hk', h8, hj, nI_1, xx_0 hb, xx_1 hb, xx_f hb, xo_f hb, xl_f hb, xg_o hb hno, xg_l hb hnl, xn_o hb, xn_l hb, xn_i hb, xg_i hb, xf_o hb, xf_l hb, xf_i hb, xo_0 hb, xo_1 hb, xo_2 hb, xo_3 hb, xo_4 hb, xo_5 hb, xo_6 hb, xo_7 hb, xo_8 hb, xo_9 hb, xl_0 hb, xl_1 hb, xl_2 hb, xl_3 hb, xl_4 hb, xl_5 hb, xl_6 hb, xl_7 hb, xl_8 hb, xl_9 hb, xl_10 hb, ws_5 hb, ws_6 hb, ws_7 hb, ws_8 hb, ws_9 hb, wl_3 hb, wl_4 hb, wl_5 hb, wl_6 hb, wl_7 hb, wl_8 hb, wl_9 hb, wl_10 hb, st_h_n, st_up_s, st_up_n, ne_eq, rg_and, rg_or, Option.some.injEq, Value.int.injEq, Value.ref.injEq, exists_eq_left', exists_eq_left, exists_eq', exists_and_left, and_assoc, true_and, forall_eq, forall_eq', not_false_eq_true, true_implies, and_true, ev_b0, Classical.not_not, st_up_s, st_up_n, ne_eq, not_false_eq_true, not_true_eq_false, true_and, and_true, and_self, or_self, or_false, false_or, or_true, true_or, false_and, and_false, if_false, if_true, true_implies, false_implies, implies_true, exists_eq_left', exists_eq_left, forall_eq, forall_eq', ev_b0, Classical.not_not, reduceIte]
    rw [st_find]
    by_cases c1 : A 21 (st_l A i k) = 0
    · rw [show st_ok A i (st_l A i k) = true by unfold st_ok; simp [c1]]
      simp (config := { decide := true }) only [c1, Bool.not_true, Bool.false_eq_true, st_up_s, st_up_n, ne_eq, not_false_eq_true, not_true_eq_false, true_and, and_true, and_self, or_self, or_false, false_or, or_true, true_or, false_and, and_false, if_false, if_true, true_implies, false_implies, implies_true, exists_eq_left', exists_eq_left, forall_eq, forall_eq', ev_b0, Classical.not_not, reduceIte]
      exact ih (k + 1) (by omega)
    · by_cases c2 : A 19 (st_l A i k) = A 18 (st_l A i k)
      · rw [show st_ok A i (st_l A i k) = true by unfold st_ok; simp [c1, c6, c2]]
        simp (config := { decide := true }) only [c1, c2, Bool.not_true, Bool.false_eq_true, st_up_s, st_up_n, ne_eq, not_false_eq_true, not_true_eq_false, true_and, and_true, and_self, or_self, or_false, false_or, or_true, true_or, false_and, and_false, if_false, if_true, true_implies, false_implies, implies_true, exists_eq_left', exists_eq_left, forall_eq, forall_eq', ev_b0, Classical.not_not, reduceIte]
        exact ih (k + 1) (by omega)
      · rw [show st_ok A i (st_l A i k) = false by unfold st_ok; simp [c1, c6, c2]]
        simp (config := { decide := true }) only [c1, c2, Bool.not_false, st_up_s, st_up_n, ne_eq, not_false_eq_true, not_true_eq_false, true_and, and_true, and_self, or_self, or_false, false_or, or_true, true_or, false_and, and_false, if_false, if_true, true_implies, false_implies, implies_true, exists_eq_left', exists_eq_left, forall_eq, forall_eq', ev_b0, Classical.not_not, reduceIte]
        exact ⟨rfl, rfl⟩
theorem xo_await_2 (hb : xb G x ol ll oa la lo ow no nl A h) (hno : no ≤ 20) (hnl : nl ≤ 60) {i s : Nat} (hi : i < no) (hs : sx_ok A i s nl) (c6 : A 6 i = 4) : ∀ d k : Nat, k + d = s → Ev l G M_O_noLineAwaitsBackorder 2 [(0, .ref (oa i)), (1, .int (nI k))] [] (XH oa la lo no nl A h) 0 0 (ev_fin G M_O_noLineAwaitsBackorder (ev_pi (fun q h' => q = st_b (decide (st_find (fun k => !st_ok A i (st_l A i k)) d k = none)) ∧ h' = XH oa la lo no nl A h) (fun _ _ => False))) := by
  have es := st_s_of hs.1.2.2.1 hs.1.2.1
  have h8 := hs.1.2.1
  intro d
  induction d with
  | zero =>
    intro k e
    obtain rfl : k = s := by omega
    refine vO_noLineAwaitsBackorder_2 ?_
    simp (config := { decide := true }) only [hi, es, Int32.le_refl, xx_0 hb, xx_1 hb, xx_f hb, xo_f hb, xl_f hb, xg_o hb hno, xg_l hb hnl, xn_o hb, xn_l hb, xn_i hb, xg_i hb, xf_o hb, xf_l hb, xf_i hb, xo_0 hb, xo_1 hb, xo_2 hb, xo_3 hb, xo_4 hb, xo_5 hb, xo_6 hb, xo_7 hb, xo_8 hb, xo_9 hb, xl_0 hb, xl_1 hb, xl_2 hb, xl_3 hb, xl_4 hb, xl_5 hb, xl_6 hb, xl_7 hb, xl_8 hb, xl_9 hb, xl_10 hb, ws_5 hb, ws_6 hb, ws_7 hb, ws_8 hb, ws_9 hb, wl_3 hb, wl_4 hb, wl_5 hb, wl_6 hb, wl_7 hb, wl_8 hb, wl_9 hb, wl_10 hb, st_h_n, st_up_s, st_up_n, ne_eq, rg_and, rg_or, Option.some.injEq, Value.int.injEq, Value.ref.injEq, exists_eq_left', exists_eq_left, exists_eq', exists_and_left, and_assoc, true_and, forall_eq, forall_eq', not_false_eq_true, true_implies, and_true, ev_b0, Classical.not_not, st_up_s, st_up_n, ne_eq, not_false_eq_true, not_true_eq_false, true_and, and_true, and_self, or_self, or_false, false_or, or_true, true_or, false_and, and_false, if_false, if_true, true_implies, false_implies, implies_true, exists_eq_left', exists_eq_left, forall_eq, forall_eq', ev_b0, Classical.not_not, reduceIte]
    exact ⟨rfl, rfl⟩
  | succ d ih =>
    intro k e
    have hk : ¬ nI s ≤ nI k := nI_ge (by omega) (by omega)
    have hk' : k < s := by omega
    have hj := hs.2 k hk'
    refine vO_noLineAwaitsBackorder_2 ?_
    simp (config := { decide := true }) only [hi, es, hk, hk', h8, hj, nI_1, xx_0 hb, xx_1 hb, xx_f hb, xo_f hb, xl_f hb, xg_o hb hno, xg_l hb hnl, xn_o hb, xn_l hb, xn_i hb, xg_i hb, xf_o hb, xf_l hb, xf_i hb, xo_0 hb, xo_1 hb, xo_2 hb, xo_3 hb, xo_4 hb, xo_5 hb, xo_6 hb, xo_7 hb, xo_8 hb, xo_9 hb, xl_0 hb, xl_1 hb, xl_2 hb, xl_3 hb, xl_4 hb, xl_5 hb, xl_6 hb, xl_7 hb, xl_8 hb, xl_9 hb, xl_10 hb, ws_5 hb, ws_6 hb, ws_7 hb, ws_8 hb, ws_9 hb, wl_3 hb, wl_4 hb, wl_5 hb, wl_6 hb, wl_7 hb, wl_8 hb, wl_9 hb, wl_10 hb, st_h_n, st_up_s, st_up_n, ne_eq, rg_and, rg_or, Option.some.injEq, Value.int.injEq, Value.ref.injEq, exists_eq_left', exists_eq_left, exists_eq', exists_and_left, and_assoc, true_and, forall_eq, forall_eq', not_false_eq_true, true_implies, and_true, ev_b0, Classical.not_not, st_up_s, st_up_n, ne_eq, not_false_eq_true, not_true_eq_false, true_and, and_true, and_self, or_self, or_false, false_or, or_true, true_or, false_and, and_false, if_false, if_true, true_implies, false_implies, implies_true, exists_eq_left', exists_eq_left, forall_eq, forall_eq', ev_b0, Classical.not_not, reduceIte]
    rw [st_find]
    by_cases c1 : ¬ A 21 (st_l A i k) = 0 ∧ ¬ (A 16 (st_l A i k) &&& 4) = 0 ∧ 0 < A 17 (st_l A i k) - A 20 (st_l A i k) ∧ A 22 (st_l A i k) = 0
    · rw [show st_ok A i (st_l A i k) = false by unfold st_ok; simp [c1, c6]]
      simp (config := { decide := true }) only [c1, Bool.not_false, st_up_s, st_up_n, ne_eq, not_false_eq_true, not_true_eq_false, true_and, and_true, and_self, or_self, or_false, false_or, or_true, true_or, false_and, and_false, if_false, if_true, true_implies, false_implies, implies_true, exists_eq_left', exists_eq_left, forall_eq, forall_eq', ev_b0, Classical.not_not, reduceIte]
      exact ⟨rfl, rfl⟩
    · rw [show st_ok A i (st_l A i k) = true by rw [st_ok_4 c6, decide_eq_false c1]; rfl]
      simp (config := { decide := true }) only [c1, Bool.not_true, Bool.false_eq_true, st_up_s, st_up_n, ne_eq, not_false_eq_true, not_true_eq_false, true_and, and_true, and_self, or_self, or_false, false_or, or_true, true_or, false_and, and_false, if_false, if_true, true_implies, false_implies, implies_true, exists_eq_left', exists_eq_left, forall_eq, forall_eq', ev_b0, Classical.not_not, reduceIte]
      exact ih (k + 1) (by omega)
def st_meet (A : st_A) (i : Nat) : Bool := decide (A 6 i = 0 → 0 < st_live A i) && decide (st_find (fun k => !st_ok A i (st_l A i k)) (st_s A i) 0 = none)
theorem st_may_meet (A : st_A) (i : Nat) : st_may A i = (decide (A 7 i = 0) && st_meet A i) := by unfold st_may st_meet; rw [Bool.and_assoc]
theorem st_ok_1 {A : st_A} {i j : Nat} (h0 : ¬ A 6 i = 0) (h2 : ¬ A 6 i = 2) (h4 : ¬ A 6 i = 4) : st_ok A i j = true := by unfold st_ok; simp [h0, h2, h4]
theorem xp_meets (hb : xb G x ol ll oa la lo ow no nl A h) (hno : no ≤ 20) (hnl : nl ≤ 60) {i s : Nat} (hi : i < no) (hs : sx_ok A i s nl) (hp : A 6 i = 0 ∨ A 6 i = 1 ∨ A 6 i = 2 ∨ A 6 i = 3 ∨ A 6 i = 4) : Mt l G M_O_meetsNextPhase [.ref (oa i)] (XH oa la lo no nl A h) (ev_pi (fun q h' => q = st_b (st_meet A i) ∧ h' = XH oa la lo no nl A h) (fun _ _ => False)) := by
  have es := st_s_of hs.1.2.2.1 hs.1.2.1
  have zb : ∀ b : Bool, narrow .boolean (.int (st_b b)) = .int (st_b b) := fun b => by cases b <;> rfl
  refine vO_meetsNextPhase ?_
  simp (config := { decide := true }) only [hi, xx_0 hb, xx_1 hb, xx_f hb, xo_f hb, xl_f hb, xg_o hb hno, xg_l hb hnl, xn_o hb, xn_l hb, xn_i hb, xg_i hb, xf_o hb, xf_l hb, xf_i hb, xo_0 hb, xo_1 hb, xo_2 hb, xo_3 hb, xo_4 hb, xo_5 hb, xo_6 hb, xo_7 hb, xo_8 hb, xo_9 hb, xl_0 hb, xl_1 hb, xl_2 hb, xl_3 hb, xl_4 hb, xl_5 hb, xl_6 hb, xl_7 hb, xl_8 hb, xl_9 hb, xl_10 hb, ws_5 hb, ws_6 hb, ws_7 hb, ws_8 hb, ws_9 hb, wl_3 hb, wl_4 hb, wl_5 hb, wl_6 hb, wl_7 hb, wl_8 hb, wl_9 hb, wl_10 hb, st_h_n, st_up_s, st_up_n, ne_eq, rg_and, rg_or, Option.some.injEq, Value.int.injEq, Value.ref.injEq, exists_eq_left', exists_eq_left, exists_eq', exists_and_left, and_assoc, true_and, forall_eq, forall_eq', not_false_eq_true, true_implies, and_true, ev_b0, Classical.not_not, st_up_s, st_up_n, ne_eq, not_false_eq_true, not_true_eq_false, true_and, and_true, and_self, or_self, or_false, false_or, or_true, true_or, false_and, and_false, if_false, if_true, true_implies, false_implies, implies_true, exists_eq_left', exists_eq_left, forall_eq, forall_eq', ev_b0, Classical.not_not, reduceIte]
  rcases hp with c6 | c6 | c6 | c6 | c6
  · simp (config := { decide := true }) only [c6, st_up_s, st_up_n, ne_eq, not_false_eq_true, not_true_eq_false, true_and, and_true, and_self, or_self, or_false, false_or, or_true, true_or, false_and, and_false, if_false, if_true, true_implies, false_implies, implies_true, exists_eq_left', exists_eq_left, forall_eq, forall_eq', ev_b0, Classical.not_not, reduceIte]
    refine ⟨_, _, xp_hasLive hb hno hnl hi hs (fun _ => rfl) (fun _ => rfl), fun q h' e => ?_, fun _ _ q => q.elim⟩
    obtain ⟨rfl, rfl⟩ := e
    by_cases cl : 0 < st_live A i
    · simp (config := { decide := true }) only [cl, hi, st_b, decide_true, xx_0 hb, xx_1 hb, xx_f hb, xo_f hb, xl_f hb, xg_o hb hno, xg_l hb hnl, xn_o hb, xn_l hb, xn_i hb, xg_i hb, xf_o hb, xf_l hb, xf_i hb, xo_0 hb, xo_1 hb, xo_2 hb, xo_3 hb, xo_4 hb, xo_5 hb, xo_6 hb, xo_7 hb, xo_8 hb, xo_9 hb, xl_0 hb, xl_1 hb, xl_2 hb, xl_3 hb, xl_4 hb, xl_5 hb, xl_6 hb, xl_7 hb, xl_8 hb, xl_9 hb, xl_10 hb, ws_5 hb, ws_6 hb, ws_7 hb, ws_8 hb, ws_9 hb, wl_3 hb, wl_4 hb, wl_5 hb, wl_6 hb, wl_7 hb, wl_8 hb, wl_9 hb, wl_10 hb, st_h_n, st_up_s, st_up_n, ne_eq, rg_and, rg_or, Option.some.injEq, Value.int.injEq, Value.ref.injEq, exists_eq_left', exists_eq_left, exists_eq', exists_and_left, and_assoc, true_and, forall_eq, forall_eq', not_false_eq_true, true_implies, and_true, ev_b0, Classical.not_not, st_up_s, st_up_n, ne_eq, not_false_eq_true, not_true_eq_false, true_and, and_true, and_self, or_self, or_false, false_or, or_true, true_or, false_and, and_false, if_false, if_true, true_implies, false_implies, implies_true, exists_eq_left', exists_eq_left, forall_eq, forall_eq', ev_b0, Classical.not_not, reduceIte]
      refine ⟨_, _, vO_eachLiveLineIsReady (xo_ready_2 hb hno hnl hi hs c6 s 0 (by omega)), fun q h' e => ?_, fun _ _ q => q.elim⟩
      obtain ⟨rfl, rfl⟩ := e
      have em : st_meet A i = decide (st_find (fun k => !st_ok A i (st_l A i k)) s 0 = none) := by unfold st_meet; rw [es]; simp [cl]
      rw [em]
      by_cases c : st_find (fun k => !st_ok A i (st_l A i k)) s 0 = none
      · simp (config := { decide := true }) only [c, st_b, decide_true, st_up_s, st_up_n, ne_eq, not_false_eq_true, not_true_eq_false, true_and, and_true, and_self, or_self, or_false, false_or, or_true, true_or, false_and, and_false, if_false, if_true, true_implies, false_implies, implies_true, exists_eq_left', exists_eq_left, forall_eq, forall_eq', ev_b0, Classical.not_not, reduceIte]
        all_goals first | exact ⟨rfl, rfl⟩ | exact ⟨rfl, fun _ => rfl⟩ | exact ⟨rfl, rfl, rfl⟩
      · simp (config := { decide := true }) only [c, st_b, decide_false, Bool.false_eq_true, st_up_s, st_up_n, ne_eq, not_false_eq_true, not_true_eq_false, true_and, and_true, and_self, or_self, or_false, false_or, or_true, true_or, false_and, and_false, if_false, if_true, true_implies, false_implies, implies_true, exists_eq_left', exists_eq_left, forall_eq, forall_eq', ev_b0, Classical.not_not, reduceIte]
        all_goals first | exact ⟨rfl, rfl⟩ | exact ⟨rfl, fun _ => rfl⟩ | exact ⟨rfl, rfl, rfl⟩
    · have em : st_meet A i = false := by unfold st_meet; simp [cl, c6]
      simp (config := { decide := true }) only [em, cl, st_b, decide_false, Bool.false_eq_true, st_up_s, st_up_n, ne_eq, not_false_eq_true, not_true_eq_false, true_and, and_true, and_self, or_self, or_false, false_or, or_true, true_or, false_and, and_false, if_false, if_true, true_implies, false_implies, implies_true, exists_eq_left', exists_eq_left, forall_eq, forall_eq', ev_b0, Classical.not_not, reduceIte]
      all_goals first | exact ⟨rfl, rfl⟩ | exact ⟨rfl, fun _ => rfl⟩ | exact ⟨rfl, rfl, rfl⟩
  · have em : st_meet A i = true := by
      unfold st_meet
      rw [st_find_no (fun k => by rw [st_ok_1 (by rw [c6]; decide) (by rw [c6]; decide) (by rw [c6]; decide)]; rfl)]
      rw [decide_eq_true (show A 6 i = 0 → 0 < st_live A i from fun y => absurd (c6.symm.trans y) (by decide))]
      rfl
    simp (config := { decide := true }) only [em, c6, st_b, st_up_s, st_up_n, ne_eq, not_false_eq_true, not_true_eq_false, true_and, and_true, and_self, or_self, or_false, false_or, or_true, true_or, false_and, and_false, if_false, if_true, true_implies, false_implies, implies_true, exists_eq_left', exists_eq_left, forall_eq, forall_eq', ev_b0, Classical.not_not, reduceIte]
    all_goals first | exact ⟨rfl, rfl⟩ | exact ⟨rfl, fun _ => rfl⟩ | exact ⟨rfl, rfl, rfl⟩
  · simp (config := { decide := true }) only [c6, st_up_s, st_up_n, ne_eq, not_false_eq_true, not_true_eq_false, true_and, and_true, and_self, or_self, or_false, false_or, or_true, true_or, false_and, and_false, if_false, if_true, true_implies, false_implies, implies_true, exists_eq_left', exists_eq_left, forall_eq, forall_eq', ev_b0, Classical.not_not, reduceIte]
    refine ⟨_, _, vO_allHeldIsPicked (xo_picked_2 hb hno hnl hi hs c6 s 0 (by omega)), fun q h' e => ?_, fun _ _ q => q.elim⟩
    obtain ⟨rfl, rfl⟩ := e
    have em : st_meet A i = decide (st_find (fun k => !st_ok A i (st_l A i k)) s 0 = none) := by unfold st_meet; rw [es, decide_eq_true (show A 6 i = 0 → 0 < st_live A i from fun y => absurd (c6.symm.trans y) (by decide)), Bool.true_and]
    rw [em]
    exact ⟨zb _, rfl, rfl⟩
  · have em : st_meet A i = true := by
      unfold st_meet
      rw [st_find_no (fun k => by rw [st_ok_1 (by rw [c6]; decide) (by rw [c6]; decide) (by rw [c6]; decide)]; rfl)]
      rw [decide_eq_true (show A 6 i = 0 → 0 < st_live A i from fun y => absurd (c6.symm.trans y) (by decide))]
      rfl
    simp (config := { decide := true }) only [em, c6, st_b, st_up_s, st_up_n, ne_eq, not_false_eq_true, not_true_eq_false, true_and, and_true, and_self, or_self, or_false, false_or, or_true, true_or, false_and, and_false, if_false, if_true, true_implies, false_implies, implies_true, exists_eq_left', exists_eq_left, forall_eq, forall_eq', ev_b0, Classical.not_not, reduceIte]
    all_goals first | exact ⟨rfl, rfl⟩ | exact ⟨rfl, fun _ => rfl⟩ | exact ⟨rfl, rfl, rfl⟩
  · simp (config := { decide := true }) only [c6, st_up_s, st_up_n, ne_eq, not_false_eq_true, not_true_eq_false, true_and, and_true, and_self, or_self, or_false, false_or, or_true, true_or, false_and, and_false, if_false, if_true, true_implies, false_implies, implies_true, exists_eq_left', exists_eq_left, forall_eq, forall_eq', ev_b0, Classical.not_not, reduceIte]
    refine ⟨_, _, vO_noLineAwaitsBackorder (xo_await_2 hb hno hnl hi hs c6 s 0 (by omega)), fun q h' e => ?_, fun _ _ q => q.elim⟩
    obtain ⟨rfl, rfl⟩ := e
    have em : st_meet A i = decide (st_find (fun k => !st_ok A i (st_l A i k)) s 0 = none) := by unfold st_meet; rw [es, decide_eq_true (show A 6 i = 0 → 0 < st_live A i from fun y => absurd (c6.symm.trans y) (by decide)), Bool.true_and]
    rw [em]
    exact ⟨zb _, rfl, rfl⟩
end X2
