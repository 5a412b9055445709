/-! THE CLASS: block, packed, lineOf, count, ready -/
theorem st_I_ln {no nl : Nat} {A : st_A} (hI : st_I no nl A) {j : Nat} (hj : j < nl) : ∃ w h p s g t r lv ag : Nat, p ≤ h ∧ h ≤ w ∧ w ≤ 1000 ∧ s ≤ w ∧ A 17 j = nI w ∧ A 18 j = nI h ∧ A 19 j = nI p ∧ A 20 j = nI s ∧ g ≤ 15 ∧ A 14 j = nI g ∧ t ≤ 16 ∧ A 15 j + 1 = nI t ∧ r ≤ 7 ∧ A 16 j = nI r ∧ lv < 2 ∧ A 21 j = nI lv ∧ ag < 2 ∧ A 22 j = nI ag := by
  obtain ⟨-, -, -, -, z, -⟩ := hI
  obtain ⟨w, h, p, s, g, t, r, z1, z2, z3, z4, z5, z6, z7, z8, z9, z10, z11, z12, z13, z14, z15, z16⟩ := z j hj
  rcases z15 with y | y
  · rcases z16 with v | v
    · exact ⟨w, h, p, s, g, t, r, 0, 0, z1, z2, z3, z4, z5, z6, z7, z8, z9, z10, z11, z12, z13, z14, by decide, y, by decide, v⟩
    · exact ⟨w, h, p, s, g, t, r, 0, 1, z1, z2, z3, z4, z5, z6, z7, z8, z9, z10, z11, z12, z13, z14, by decide, y, by decide, v⟩
  · rcases z16 with v | v
    · exact ⟨w, h, p, s, g, t, r, 1, 0, z1, z2, z3, z4, z5, z6, z7, z8, z9, z10, z11, z12, z13, z14, by decide, y, by decide, v⟩
    · exact ⟨w, h, p, s, g, t, r, 1, 1, z1, z2, z3, z4, z5, z6, z7, z8, z9, z10, z11, z12, z13, z14, by decide, y, by decide, v⟩
theorem nI_01 {k : Nat} (hk : k < 2) : (nI k = 0 ↔ k = 0) := nI_eq (b := 0) (by omega) (by decide)
section X5
variable {l : Launch} {G : ev_G} {x ol ll : Nat} {oa la lo ow : Nat → Nat} {no nl : Nat} {A B : st_A} {h : ev_AH}
theorem xp_packed (hb : xb G x ol ll oa la lo ow no nl A h) (hI : st_I no nl A) {p : Int32} : Mt l G M_X_packed [.ref x, .int p] (XH oa la lo no nl A h) (ev_pl (fun r h' => (op_packed nl A p).1 = 0 ∧ r = (op_packed nl A p).2 ∧ h' = XH oa la lo no nl A h) (fun E h' => (E, (op_packed nl A p).1) ∈ x_N ∧ h' = XH oa la lo no nl A h)) := by
  have hno := hI.1.1
  have hnl := hI.1.2
  refine vX_packed ⟨(xx_f hb).mpr trivial, _, _, xp_lineAt hb hno hnl, fun r h1 e => ?_, fun E h1 e => ?_⟩
  rotate_left
  · obtain ⟨rfl, e1, rfl⟩ := e
    simp (config := { decide := true }) only [e1, op_packed, st_up_s, st_up_n, ne_eq, not_false_eq_true, not_true_eq_false, true_and, and_true, and_self, or_self, or_false, false_or, or_true, true_or, false_and, and_false, if_false, if_true, true_implies, false_implies, implies_true, exists_eq_left', exists_eq_left, forall_eq, forall_eq', ev_b0, Classical.not_not, reduceIte]
    all_goals first | exact ⟨rfl, rfl, rfl⟩ | exact ⟨rfl, rfl⟩ | exact ⟨by decide, rfl⟩
  obtain ⟨j, hj, rfl, rfl, rfl, e1, e2⟩ := e
  obtain ⟨i, hi, k2, k1, e13, eh, k3, k4⟩ := st_I_13 hI hj
  obtain ⟨w, hh, pk, s, g, t, r, lv, ag, z1, z2, z3, z4, z5, z6, z7, z8, z9, z10, z11, z12, z13, z14, z15, z16, z17, z18⟩ := st_I_ln hI hj
  have tl : ∀ k : Nat, k < 2 ^ 31 → Int32.toInt64 (nI k) = lN k := fun k hk => nI_l hk
  have ep : st_pack A j = lN (pb_N i ag lv s pk hh w r t g) := by
    unfold st_pack
    rw [z5, z6, z7, z8, z10, z12, z14, z16, z18, e13, tl w (by omega), tl hh (by omega), tl pk (by omega), tl s (by omega), tl i (by omega)]
    refine pb_ref k2 z17 z15 (by omega) (by omega) (by omega) (by omega) (by omega) (by omega) (by omega) ?_
    rcases (show lv = 0 ∨ lv = 1 by omega) with rfl | rfl
    · rcases (show ag = 0 ∨ ag = 1 by omega) with rfl | rfl <;> decide +kernel
    · rcases (show ag = 0 ∨ ag = 1 by omega) with rfl | rfl <;> decide +kernel
  have ec := pb_cls k2 z17 z15 (show s < 1024 by omega) (show pk < 1024 by omega) (show hh < 1024 by omega) (show w < 1024 by omega) (show r < 8 by omega) (show t < 32 by omega) (show g < 16 by omega)
  have tv := tl lv (by omega)
  have ta := tl ag (by omega)
  simp (config := { decide := true }) only [hi, hj, eh, z5, z6, z7, z8, z10, z12, z14, z16, z18, tl w (by omega), tl hh (by omega), tl pk (by omega), tl s (by omega), tl i (by omega), tl g (by omega), tl r (by omega), tl t (by omega), xx_0 hb, xx_1 hb, xx_f hb, xo_f hb, xl_f hb, xg_o hb hno, xg_l hb hnl, xn_o hb, xn_l hb, xn_i hb, xg_i hb, xf_o hb, xf_l hb, xf_i hb, xo_0 hb, xo_1 hb, xo_2 hb, xo_3 hb, xo_4 hb, xo_5 hb, xo_6 hb, xo_7 hb, xo_8 hb, xo_9 hb, xl_0 hb, xl_1 hb, xl_2 hb, xl_3 hb, xl_4 hb, xl_5 hb, xl_6 hb, xl_7 hb, xl_8 hb, xl_9 hb, xl_10 hb, ws_5 hb, ws_6 hb, ws_7 hb, ws_8 hb, ws_9 hb, wl_3 hb, wl_4 hb, wl_5 hb, wl_6 hb, wl_7 hb, wl_8 hb, wl_9 hb, wl_10 hb, st_h_n, st_up_s, st_up_n, ne_eq, rg_and, rg_or, Option.some.injEq, Value.int.injEq, Value.ref.injEq, exists_eq_left', exists_eq_left, exists_eq', exists_and_left, and_assoc, true_and, forall_eq, forall_eq', not_false_eq_true, true_implies, and_true, ev_b0, Classical.not_not, st_up_s, st_up_n, ne_eq, not_false_eq_true, not_true_eq_false, true_and, and_true, and_self, or_self, or_false, false_or, or_true, true_or, false_and, and_false, if_false, if_true, true_implies, false_implies, implies_true, exists_eq_left', exists_eq_left, forall_eq, forall_eq', ev_b0, Classical.not_not, reduceIte]
  have fin : ev_pl (fun r h' => (op_packed nl A (nI j)).1 = 0 ∧ r = (op_packed nl A (nI j)).2 ∧ h' = XH oa la lo no nl A h) (fun E h' => (E, (op_packed nl A (nI j)).1) ∈ x_N ∧ h' = XH oa la lo no nl A h) (.inl (some (.long (lN (pb_N i ag lv s pk hh w r t g))))) (XH oa la lo no nl A h) := by
    have eo : op_packed nl A (nI j) = (0, st_pack A j) := by unfold op_packed; rw [if_neg e1, e2]
    rw [eo]
    exact ⟨rfl, ep.symm, rfl⟩
  rw [← ec] at fin
  rcases (show lv = 0 ∨ lv = 1 by omega) with rfl | rfl
  · rcases (show ag = 0 ∨ ag = 1 by omega) with rfl | rfl
    · simp (config := { decide := true }) only [nI_01, st_up_s, st_up_n, ne_eq, not_false_eq_true, not_true_eq_false, true_and, and_true, and_self, or_self, or_false, false_or, or_true, true_or, false_and, and_false, if_false, if_true, true_implies, false_implies, implies_true, exists_eq_left', exists_eq_left, forall_eq, forall_eq', ev_b0, Classical.not_not, reduceIte]
      exact fin
    · simp (config := { decide := true }) only [nI_01, st_up_s, st_up_n, ne_eq, not_false_eq_true, not_true_eq_false, true_and, and_true, and_self, or_self, or_false, false_or, or_true, true_or, false_and, and_false, if_false, if_true, true_implies, false_implies, implies_true, exists_eq_left', exists_eq_left, forall_eq, forall_eq', ev_b0, Classical.not_not, reduceIte]
      exact fin
  · rcases (show ag = 0 ∨ ag = 1 by omega) with rfl | rfl
    · simp (config := { decide := true }) only [nI_01, st_up_s, st_up_n, ne_eq, not_false_eq_true, not_true_eq_false, true_and, and_true, and_self, or_self, or_false, false_or, or_true, true_or, false_and, and_false, if_false, if_true, true_implies, false_implies, implies_true, exists_eq_left', exists_eq_left, forall_eq, forall_eq', ev_b0, Classical.not_not, reduceIte]
      exact fin
    · simp (config := { decide := true }) only [nI_01, st_up_s, st_up_n, ne_eq, not_false_eq_true, not_true_eq_false, true_and, and_true, and_self, or_self, or_false, false_or, or_true, true_or, false_and, and_false, if_false, if_true, true_implies, false_implies, implies_true, exists_eq_left', exists_eq_left, forall_eq, forall_eq', ev_b0, Classical.not_not, reduceIte]
      exact fin
theorem xp_block (hb : xb G x ol ll oa la lo ow no nl A h) (hI : st_I no nl A) {p q b : Int32} (hb1 : b = 0 ∨ b = 1) : Mt l G M_X_block [.ref x, .int p, .int q, .int b] (XH oa la lo no nl A h) (xP oa la lo h x_NAS (op_block no nl A p q b)) := by
  have hno := hI.1.1
  have hnl := hI.1.2
  refine vX_block ⟨(xx_f hb).mpr trivial, _, _, xp_orderAt hb hno hnl, fun r h1 e => ?_, fun E h1 e => ?_⟩
  rotate_left
  · obtain ⟨rfl, e1, rfl⟩ := e
    simp (config := { decide := true }) only [e1, op_block, xP, st_up_s, st_up_n, ne_eq, not_false_eq_true, not_true_eq_false, true_and, and_true, and_self, or_self, or_false, false_or, or_true, true_or, false_and, and_false, if_false, if_true, true_implies, false_implies, implies_true, exists_eq_left', exists_eq_left, forall_eq, forall_eq', ev_b0, Classical.not_not, reduceIte]
    all_goals first | exact ⟨rfl, rfl, rfl⟩ | exact ⟨rfl, rfl⟩ | exact ⟨by decide, rfl⟩
  obtain ⟨i, hi, rfl, rfl, rfl, e1, e2⟩ := e
  simp (config := { decide := true }) only [hi, xx_0 hb, xx_1 hb, xx_f hb, xo_f hb, xl_f hb, xg_o hb hno, xg_l hb hnl, xn_o hb, xn_l hb, xn_i hb, xg_i hb, xf_o hb, xf_l hb, xf_i hb, xo_0 hb, xo_1 hb, xo_2 hb, xo_3 hb, xo_4 hb, xo_5 hb, xo_6 hb, xo_7 hb, xo_8 hb, xo_9 hb, xl_0 hb, xl_1 hb, xl_2 hb, xl_3 hb, xl_4 hb, xl_5 hb, xl_6 hb, xl_7 hb, xl_8 hb, xl_9 hb, xl_10 hb, ws_5 hb, ws_6 hb, ws_7 hb, ws_8 hb, ws_9 hb, wl_3 hb, wl_4 hb, wl_5 hb, wl_6 hb, wl_7 hb, wl_8 hb, wl_9 hb, wl_10 hb, st_h_n, st_up_s, st_up_n, ne_eq, rg_and, rg_or, Option.some.injEq, Value.int.injEq, Value.ref.injEq, exists_eq_left', exists_eq_left, exists_eq', exists_and_left, and_assoc, true_and, forall_eq, forall_eq', not_false_eq_true, true_implies, and_true, ev_b0, Classical.not_not, st_up_s, st_up_n, ne_eq, not_false_eq_true, not_true_eq_false, true_and, and_true, and_self, or_self, or_false, false_or, or_true, true_or, false_and, and_false, if_false, if_true, true_implies, false_implies, implies_true, exists_eq_left', exists_eq_left, forall_eq, forall_eq', ev_b0, Classical.not_not, reduceIte]
  simp (config := { decide := true }) only [e1, e2, op_block, op_block1, st_up_s, st_up_n, ne_eq, not_false_eq_true, not_true_eq_false, true_and, and_true, and_self, or_self, or_false, false_or, or_true, true_or, false_and, and_false, if_false, if_true, true_implies, false_implies, implies_true, exists_eq_left', exists_eq_left, forall_eq, forall_eq', ev_b0, Classical.not_not, reduceIte]
  by_cases c1 : 0 ≤ q ∧ q ≤ 7
  rotate_left
  · simp (config := { decide := true }) only [c1, st_up_s, st_up_n, ne_eq, not_false_eq_true, not_true_eq_false, true_and, and_true, and_self, or_self, or_false, false_or, or_true, true_or, false_and, and_false, if_false, if_true, true_implies, false_implies, implies_true, exists_eq_left', exists_eq_left, forall_eq, forall_eq', ev_b0, Classical.not_not, reduceIte, xP]
    all_goals first | exact ⟨rfl, rfl, rfl⟩ | exact ⟨rfl, rfl⟩ | exact ⟨by decide, rfl⟩
  by_cases c2 : 4 ≤ A 6 i
  · simp (config := { decide := true }) only [c1, c2, st_up_s, st_up_n, ne_eq, not_false_eq_true, not_true_eq_false, true_and, and_true, and_self, or_self, or_false, false_or, or_true, true_or, false_and, and_false, if_false, if_true, true_implies, false_implies, implies_true, exists_eq_left', exists_eq_left, forall_eq, forall_eq', ev_b0, Classical.not_not, reduceIte, xP]
    all_goals first | exact ⟨rfl, rfl, rfl⟩ | exact ⟨rfl, rfl⟩ | exact ⟨by decide, rfl⟩
  simp (config := { decide := true }) only [c1, c2, st_up_s, st_up_n, ne_eq, not_false_eq_true, not_true_eq_false, true_and, and_true, and_self, or_self, or_false, false_or, or_true, true_or, false_and, and_false, if_false, if_true, true_implies, false_implies, implies_true, exists_eq_left', exists_eq_left, forall_eq, forall_eq', ev_b0, Classical.not_not, reduceIte]
  obtain ⟨k, hk, rfl⟩ := nI_of2 (n := 7) (by decide) (Int32.not_lt.mpr c1.1) c1.2
  obtain ⟨bb, hbb, e7⟩ : ∃ bb, bb < 256 ∧ A 7 i = nI bb := by
    obtain ⟨-, -, -, z, -⟩ := hI
    obtain ⟨q, b, -, -, z1, z2, -⟩ := z i hi
    exact ⟨b, z1, z2⟩
  obtain ⟨cc, hcc⟩ := pb_xo ⟨bb, hbb⟩ ⟨k, by omega⟩
  have fin : ∃ (A_1 : Int32 → ev_AH → Prop) (X : String → ev_AH → Prop), Mt l G M_Ji_bitCount [.int (nI bb ^^^ (1 <<< (nI k &&& 31)))] (XH oa la lo no nl (st_up (st_up A 7 i (nI bb ^^^ (1 <<< (nI k &&& 31)))) 8 i (A 8 i + 1)) h) (ev_pi A_1 X) ∧ (∀ (r26 : Int32) (h25 : ev_AH), A_1 r26 h25 → xP oa la lo h x_NAS (0, st_bits (nI bb ^^^ (1 <<< (nI k &&& 31))), no, nl, st_up (st_up A 7 i (nI bb ^^^ (1 <<< (nI k &&& 31)))) 8 i (A 8 i + 1)) (.inl (some (.int r26))) h25) ∧ ∀ (E : String) (h9 : ev_AH), X E h9 → xP oa la lo h x_NAS (0, st_bits (nI bb ^^^ (1 <<< (nI k &&& 31))), no, nl, st_up (st_up A 7 i (nI bb ^^^ (1 <<< (nI k &&& 31)))) 8 i (A 8 i + 1)) (.inr E) h9 := by
    rw [show nI bb ^^^ ((1 : Int32) <<< (nI k &&& 31)) = nI cc.val from hcc]
    refine ⟨_, _, xp_bitCount cc.isLt, fun q h' e => ?_, fun _ _ q => q.elim⟩
    obtain ⟨rfl, rfl⟩ := e
    exact ⟨rfl, rfl, rfl⟩
  rw [e7]
  rcases pb_bt ⟨bb, hbb⟩ ⟨k, by omega⟩ with ⟨y1, y2⟩ | ⟨y1, y2⟩
  · rcases hb1 with rfl | rfl
    · simp (config := { decide := true }) only [y1, y2, st_up_s, st_up_n, ne_eq, not_false_eq_true, not_true_eq_false, true_and, and_true, and_self, or_self, or_false, false_or, or_true, true_or, false_and, and_false, if_false, if_true, true_implies, false_implies, implies_true, exists_eq_left', exists_eq_left, forall_eq, forall_eq', ev_b0, Classical.not_not, reduceIte, xP]
      all_goals first | exact ⟨rfl, rfl, rfl⟩ | exact ⟨rfl, rfl⟩ | exact ⟨by decide, rfl⟩
    · simp (config := { decide := true }) only [y1, y2, st_up_s, st_up_n, ne_eq, not_false_eq_true, not_true_eq_false, true_and, and_true, and_self, or_self, or_false, false_or, or_true, true_or, false_and, and_false, if_false, if_true, true_implies, false_implies, implies_true, exists_eq_left', exists_eq_left, forall_eq, forall_eq', ev_b0, Classical.not_not, reduceIte]
      exact fin
  · rcases hb1 with rfl | rfl
    · simp (config := { decide := true }) only [y1, y2, st_up_s, st_up_n, ne_eq, not_false_eq_true, not_true_eq_false, true_and, and_true, and_self, or_self, or_false, false_or, or_true, true_or, false_and, and_false, if_false, if_true, true_implies, false_implies, implies_true, exists_eq_left', exists_eq_left, forall_eq, forall_eq', ev_b0, Classical.not_not, reduceIte]
      exact fin
    · simp (config := { decide := true }) only [y1, y2, st_up_s, st_up_n, ne_eq, not_false_eq_true, not_true_eq_false, true_and, and_true, and_self, or_self, or_false, false_or, or_true, true_or, false_and, and_false, if_false, if_true, true_implies, false_implies, implies_true, exists_eq_left', exists_eq_left, forall_eq, forall_eq', ev_b0, Classical.not_not, reduceIte, xP]
      all_goals first | exact ⟨rfl, rfl, rfl⟩ | exact ⟨rfl, rfl⟩ | exact ⟨by decide, rfl⟩
theorem xp_lineOf (hb : xb G x ol ll oa la lo ow no nl A h) (hI : st_I no nl A) {p k : Int32} : Mt l G M_X_lineOf [.ref x, .int p, .int k] (XH oa la lo no nl A h) (xP oa la lo h x_NA (op_lineOf no nl A p k)) := by
  have hno := hI.1.1
  have hnl := hI.1.2
  refine vX_lineOf ⟨(xx_f hb).mpr trivial, _, _, xp_orderAt hb hno hnl, fun r h1 e => ?_, fun E h1 e => ?_⟩
  rotate_left
  · obtain ⟨rfl, e1, rfl⟩ := e
    simp (config := { decide := true }) only [e1, op_lineOf, xP, st_up_s, st_up_n, ne_eq, not_false_eq_true, not_true_eq_false, true_and, and_true, and_self, or_self, or_false, false_or, or_true, true_or, false_and, and_false, if_false, if_true, true_implies, false_implies, implies_true, exists_eq_left', exists_eq_left, forall_eq, forall_eq', ev_b0, Classical.not_not, reduceIte]
    all_goals first | exact ⟨rfl, rfl, rfl⟩ | exact ⟨rfl, rfl⟩ | exact ⟨by decide, rfl⟩
  obtain ⟨i, hi, rfl, rfl, rfl, e1, e2⟩ := e
  obtain ⟨s, hs⟩ := sx_of hI hi
  have es := st_s_of hs.1.2.2.1 hs.1.2.1
  have e10 := hs.1.2.2.1
  have h8 := hs.1.2.1
  simp (config := { decide := true }) only [hi, es, xx_0 hb, xx_1 hb, xx_f hb, xo_f hb, xl_f hb, xg_o hb hno, xg_l hb hnl, xn_o hb, xn_l hb, xn_i hb, xg_i hb, xf_o hb, xf_l hb, xf_i hb, xo_0 hb, xo_1 hb, xo_2 hb, xo_3 hb, xo_4 hb, xo_5 hb, xo_6 hb, xo_7 hb, xo_8 hb, xo_9 hb, xl_0 hb, xl_1 hb, xl_2 hb, xl_3 hb, xl_4 hb, xl_5 hb, xl_6 hb, xl_7 hb, xl_8 hb, xl_9 hb, xl_10 hb, ws_5 hb, ws_6 hb, ws_7 hb, ws_8 hb, ws_9 hb, wl_3 hb, wl_4 hb, wl_5 hb, wl_6 hb, wl_7 hb, wl_8 hb, wl_9 hb, wl_10 hb, st_h_n, st_up_s, st_up_n, ne_eq, rg_and, rg_or, Option.some.injEq, Value.int.injEq, Value.ref.injEq, exists_eq_left', exists_eq_left, exists_eq', exists_and_left, and_assoc, true_and, forall_eq, forall_eq', not_false_eq_true, true_implies, and_true, ev_b0, Classical.not_not, st_up_s, st_up_n, ne_eq, not_false_eq_true, not_true_eq_false, true_and, and_true, and_self, or_self, or_false, false_or, or_true, true_or, false_and, and_false, if_false, if_true, true_implies, false_implies, implies_true, exists_eq_left', exists_eq_left, forall_eq, forall_eq', ev_b0, Classical.not_not, reduceIte]
  simp (config := { decide := true }) only [e1, e2, e10, op_lineOf, op_lineOf1, st_up_s, st_up_n, ne_eq, not_false_eq_true, not_true_eq_false, true_and, and_true, and_self, or_self, or_false, false_or, or_true, true_or, false_and, and_false, if_false, if_true, true_implies, false_implies, implies_true, exists_eq_left', exists_eq_left, forall_eq, forall_eq', ev_b0, Classical.not_not, reduceIte]
  by_cases c1 : k < 0
  · simp (config := { decide := true }) only [c1, st_up_s, st_up_n, ne_eq, not_false_eq_true, not_true_eq_false, true_and, and_true, and_self, or_self, or_false, false_or, or_true, true_or, false_and, and_false, if_false, if_true, true_implies, false_implies, implies_true, exists_eq_left', exists_eq_left, forall_eq, forall_eq', ev_b0, Classical.not_not, reduceIte, xP]
    all_goals first | exact ⟨rfl, rfl, rfl⟩ | exact ⟨rfl, rfl⟩ | exact ⟨by decide, rfl⟩
  obtain ⟨kk, hkk, rfl⟩ := nI_of c1
  rcases Nat.lt_or_ge kk s with z | z
  · have c2 : ¬ nI s ≤ nI kk := nI_ge z (by omega)
    have c3 : nI kk < nI s := Int32.not_le.mp c2
    have hj := hs.2 kk z
    obtain ⟨j, j1, j2, j3, j4, j5, j6, j7, j8⟩ := hs.1.at z
    simp (config := { decide := true }) only [c1, c2, c3, z, es, hi, h8, hj, j3, nI_clamp hkk, j2, xx_0 hb, xx_1 hb, xx_f hb, xo_f hb, xl_f hb, xg_o hb hno, xg_l hb hnl, xn_o hb, xn_l hb, xn_i hb, xg_i hb, xf_o hb, xf_l hb, xf_i hb, xo_0 hb, xo_1 hb, xo_2 hb, xo_3 hb, xo_4 hb, xo_5 hb, xo_6 hb, xo_7 hb, xo_8 hb, xo_9 hb, xl_0 hb, xl_1 hb, xl_2 hb, xl_3 hb, xl_4 hb, xl_5 hb, xl_6 hb, xl_7 hb, xl_8 hb, xl_9 hb, xl_10 hb, ws_5 hb, ws_6 hb, ws_7 hb, ws_8 hb, ws_9 hb, wl_3 hb, wl_4 hb, wl_5 hb, wl_6 hb, wl_7 hb, wl_8 hb, wl_9 hb, wl_10 hb, st_h_n, st_up_s, st_up_n, ne_eq, rg_and, rg_or, Option.some.injEq, Value.int.injEq, Value.ref.injEq, exists_eq_left', exists_eq_left, exists_eq', exists_and_left, and_assoc, true_and, forall_eq, forall_eq', not_false_eq_true, true_implies, and_true, ev_b0, Classical.not_not, st_up_s, st_up_n, ne_eq, not_false_eq_true, not_true_eq_false, true_and, and_true, and_self, or_self, or_false, false_or, or_true, true_or, false_and, and_false, if_false, if_true, true_implies, false_implies, implies_true, exists_eq_left', exists_eq_left, forall_eq, forall_eq', ev_b0, Classical.not_not, reduceIte]
    rw [j3] at hj
    simp (config := { decide := true }) only [hj, xx_0 hb, xx_1 hb, xx_f hb, xo_f hb, xl_f hb, xg_o hb hno, xg_l hb hnl, xn_o hb, xn_l hb, xn_i hb, xg_i hb, xf_o hb, xf_l hb, xf_i hb, xo_0 hb, xo_1 hb, xo_2 hb, xo_3 hb, xo_4 hb, xo_5 hb, xo_6 hb, xo_7 hb, xo_8 hb, xo_9 hb, xl_0 hb, xl_1 hb, xl_2 hb, xl_3 hb, xl_4 hb, xl_5 hb, xl_6 hb, xl_7 hb, xl_8 hb, xl_9 hb, xl_10 hb, ws_5 hb, ws_6 hb, ws_7 hb, ws_8 hb, ws_9 hb, wl_3 hb, wl_4 hb, wl_5 hb, wl_6 hb, wl_7 hb, wl_8 hb, wl_9 hb, wl_10 hb, st_h_n, st_up_s, st_up_n, ne_eq, rg_and, rg_or, Option.some.injEq, Value.int.injEq, Value.ref.injEq, exists_eq_left', exists_eq_left, exists_eq', exists_and_left, and_assoc, true_and, forall_eq, forall_eq', not_false_eq_true, true_implies, and_true, ev_b0, Classical.not_not, st_up_s, st_up_n, ne_eq, not_false_eq_true, not_true_eq_false, true_and, and_true, and_self, or_self, or_false, false_or, or_true, true_or, false_and, and_false, if_false, if_true, true_implies, false_implies, implies_true, exists_eq_left', exists_eq_left, forall_eq, forall_eq', ev_b0, Classical.not_not, reduceIte, xP]
    all_goals first | exact ⟨rfl, rfl, rfl⟩ | exact ⟨rfl, rfl⟩ | exact ⟨by decide, rfl⟩
  · have c2 : nI s ≤ nI kk := nI_le z hkk
    have c3 : ¬ nI kk < nI s := Int32.not_lt.mpr c2
    simp (config := { decide := true }) only [c1, c2, c3, st_up_s, st_up_n, ne_eq, not_false_eq_true, not_true_eq_false, true_and, and_true, and_self, or_self, or_false, false_or, or_true, true_or, false_and, and_false, if_false, if_true, true_implies, false_implies, implies_true, exists_eq_left', exists_eq_left, forall_eq, forall_eq', ev_b0, Classical.not_not, reduceIte, xP]
    all_goals first | exact ⟨rfl, rfl, rfl⟩ | exact ⟨rfl, rfl⟩ | exact ⟨by decide, rfl⟩
theorem xo_held_4 (hb : xb G x ol ll oa la lo ow no nl A h) (hI : st_I no nl A) : ∀ (d k : Nat) (a : Int32), k + d = nl → Ev l G M_X_piecesHeld 4 [(0, .ref x), (1, .int a), (2, .int (nI k))] [] (XH oa la lo no nl A h) 0 0 (ev_fin G M_X_piecesHeld (ev_pi (fun q h' => q = st_sum (fun j => if ¬ A 21 j = 0 ∧ A 6 (st_h A j) < 4 then A 18 j else 0) d k a ∧ h' = XH oa la lo no nl A h) (fun _ _ => False))) := by
  have hno := hI.1.1
  have hnl := hI.1.2
  intro d
  induction d with
  | zero =>
    intro k a e
    obtain rfl : k = nl := by omega
    refine vX_piecesHeld_4 ?_
    simp (config := { decide := true }) only [Int32.le_refl, xx_0 hb, xx_1 hb, xx_f hb, xo_f hb, xl_f hb, xg_o hb hno, xg_l hb hnl, xn_o hb, xn_l hb, xn_i hb, xg_i hb, xf_o hb, xf_l hb, xf_i hb, xo_0 hb, xo_1 hb, xo_2 hb, xo_3 hb, xo_4 hb, xo_5 hb, xo_6 hb, xo_7 hb, xo_8 hb, xo_9 hb, xl_0 hb, xl_1 hb, xl_2 hb, xl_3 hb, xl_4 hb, xl_5 hb, xl_6 hb, xl_7 hb, xl_8 hb, xl_9 hb, xl_10 hb, ws_5 hb, ws_6 hb, ws_7 hb, ws_8 hb, ws_9 hb, wl_3 hb, wl_4 hb, wl_5 hb, wl_6 hb, wl_7 hb, wl_8 hb, wl_9 hb, wl_10 hb, st_h_n, st_up_s, st_up_n, ne_eq, rg_and, rg_or, Option.some.injEq, Value.int.injEq, Value.ref.injEq, exists_eq_left', exists_eq_left, exists_eq', exists_and_left, and_assoc, true_and, forall_eq, forall_eq', not_false_eq_true, true_implies, and_true, ev_b0, Classical.not_not, st_up_s, st_up_n, ne_eq, not_false_eq_true, not_true_eq_false, true_and, and_true, and_self, or_self, or_false, false_or, or_true, true_or, false_and, and_false, if_false, if_true, true_implies, false_implies, implies_true, exists_eq_left', exists_eq_left, forall_eq, forall_eq', ev_b0, Classical.not_not, reduceIte]
    exact ⟨rfl, rfl⟩
  | succ d ih =>
    intro k a e
    have hk : ¬ nI nl ≤ nI k := nI_ge (by omega) (by omega)
    have hk' : k < nl := by omega
    obtain ⟨i, hi, i2, k3, e13, eh, i3, i4⟩ := st_I_13 hI hk'
    refine vX_piecesHeld_4 ?_
    simp (config := { decide := true }) only [hk, hk', hi, eh, nI_1, xx_0 hb, xx_1 hb, xx_f hb, xo_f hb, xl_f hb, xg_o hb hno, xg_l hb hnl, xn_o hb, xn_l hb, xn_i hb, xg_i hb, xf_o hb, xf_l hb, xf_i hb, xo_0 hb, xo_1 hb, xo_2 hb, xo_3 hb, xo_4 hb, xo_5 hb, xo_6 hb, xo_7 hb, xo_8 hb, xo_9 hb, xl_0 hb, xl_1 hb, xl_2 hb, xl_3 hb, xl_4 hb, xl_5 hb, xl_6 hb, xl_7 hb, xl_8 hb, xl_9 hb, xl_10 hb, ws_5 hb, ws_6 hb, ws_7 hb, ws_8 hb, ws_9 hb, wl_3 hb, wl_4 hb, wl_5 hb, wl_6 hb, wl_7 hb, wl_8 hb, wl_9 hb, wl_10 hb, st_h_n, st_up_s, st_up_n, ne_eq, rg_and, rg_or, Option.some.injEq, Value.int.injEq, Value.ref.injEq, exists_eq_left', exists_eq_left, exists_eq', exists_and_left, and_assoc, true_and, forall_eq, forall_eq', not_false_eq_true, true_implies, and_true, ev_b0, Classical.not_not, st_up_s, st_up_n, ne_eq, not_false_eq_true, not_true_eq_false, true_and, and_true, and_self, or_self, or_false, false_or, or_true, true_or, false_and, and_false, if_false, if_true, true_implies, false_implies, implies_true, exists_eq_left', exists_eq_left, forall_eq, forall_eq', ev_b0, Classical.not_not, reduceIte]
    rw [st_sum, eh]
    by_cases c1 : A 21 k = 0
    · simp (config := { decide := true }) only [c1, Int32.add_zero, st_up_s, st_up_n, ne_eq, not_false_eq_true, not_true_eq_false, true_and, and_true, and_self, or_self, or_false, false_or, or_true, true_or, false_and, and_false, if_false, if_true, true_implies, false_implies, implies_true, exists_eq_left', exists_eq_left, forall_eq, forall_eq', ev_b0, Classical.not_not, reduceIte]
      exact ih (k + 1) a (by omega)
    · by_cases c2 : 4 ≤ A 6 i
      · have c3 : ¬ A 6 i < 4 := Int32.not_lt.mpr c2
        simp (config := { decide := true }) only [c1, c2, c3, Int32.add_zero, st_up_s, st_up_n, ne_eq, not_false_eq_true, not_true_eq_false, true_and, and_true, and_self, or_self, or_false, false_or, or_true, true_or, false_and, and_false, if_false, if_true, true_implies, false_implies, implies_true, exists_eq_left', exists_eq_left, forall_eq, forall_eq', ev_b0, Classical.not_not, reduceIte]
        exact ih (k + 1) a (by omega)
      · have c3 : A 6 i < 4 := Int32.not_le.mp c2
        simp (config := { decide := true }) only [c1, c2, c3, st_up_s, st_up_n, ne_eq, not_false_eq_true, not_true_eq_false, true_and, and_true, and_self, or_self, or_false, false_or, or_true, true_or, false_and, and_false, if_false, if_true, true_implies, false_implies, implies_true, exists_eq_left', exists_eq_left, forall_eq, forall_eq', ev_b0, Classical.not_not, reduceIte]
        exact ih (k + 1) _ (by omega)
theorem xo_shipped_4 (hb : xb G x ol ll oa la lo ow no nl A h) (hno : no ≤ 20) (hnl : nl ≤ 60) : ∀ (d k : Nat) (a : Int32), k + d = nl → Ev l G M_X_piecesShipped 4 [(0, .ref x), (1, .int a), (2, .int (nI k))] [] (XH oa la lo no nl A h) 0 0 (ev_fin G M_X_piecesShipped (ev_pi (fun q h' => q = st_sum (fun j => A 20 j) d k a ∧ h' = XH oa la lo no nl A h) (fun _ _ => False))) := by
  intro d
  induction d with
  | zero =>
    intro k a e
    obtain rfl : k = nl := by omega
    refine vX_piecesShipped_4 ?_
    simp (config := { decide := true }) only [Int32.le_refl, xx_0 hb, xx_1 hb, xx_f hb, xo_f hb, xl_f hb, xg_o hb hno, xg_l hb hnl, xn_o hb, xn_l hb, xn_i hb, xg_i hb, xf_o hb, xf_l hb, xf_i hb, xo_0 hb, xo_1 hb, xo_2 hb, xo_3 hb, xo_4 hb, xo_5 hb, xo_6 hb, xo_7 hb, xo_8 hb, xo_9 hb, xl_0 hb, xl_1 hb, xl_2 hb, xl_3 hb, xl_4 hb, xl_5 hb, xl_6 hb, xl_7 hb, xl_8 hb, xl_9 hb, xl_10 hb, ws_5 hb, ws_6 hb, ws_7 hb, ws_8 hb, ws_9 hb, wl_3 hb, wl_4 hb, wl_5 hb, wl_6 hb, wl_7 hb, wl_8 hb, wl_9 hb, wl_10 hb, st_h_n, st_up_s, st_up_n, ne_eq, rg_and, rg_or, Option.some.injEq, Value.int.injEq, Value.ref.injEq, exists_eq_left', exists_eq_left, exists_eq', exists_and_left, and_assoc, true_and, forall_eq, forall_eq', not_false_eq_true, true_implies, and_true, ev_b0, Classical.not_not, st_up_s, st_up_n, ne_eq, not_false_eq_true, not_true_eq_false, true_and, and_true, and_self, or_self, or_false, false_or, or_true, true_or, false_and, and_false, if_false, if_true, true_implies, false_implies, implies_true, exists_eq_left', exists_eq_left, forall_eq, forall_eq', ev_b0, Classical.not_not, reduceIte]
    exact ⟨rfl, rfl⟩
  | succ d ih =>
    intro k a e
    have hk : ¬ nI nl ≤ nI k := nI_ge (by omega) (by omega)
    have hk' : k < nl := by omega
    refine vX_piecesShipped_4 ?_
    simp (config := { decide := true }) only [hk, hk', nI_1, xx_0 hb, xx_1 hb, xx_f hb, xo_f hb, xl_f hb, xg_o hb hno, xg_l hb hnl, xn_o hb, xn_l hb, xn_i hb, xg_i hb, xf_o hb, xf_l hb, xf_i hb, xo_0 hb, xo_1 hb, xo_2 hb, xo_3 hb, xo_4 hb, xo_5 hb, xo_6 hb, xo_7 hb, xo_8 hb, xo_9 hb, xl_0 hb, xl_1 hb, xl_2 hb, xl_3 hb, xl_4 hb, xl_5 hb, xl_6 hb, xl_7 hb, xl_8 hb, xl_9 hb, xl_10 hb, ws_5 hb, ws_6 hb, ws_7 hb, ws_8 hb, ws_9 hb, wl_3 hb, wl_4 hb, wl_5 hb, wl_6 hb, wl_7 hb, wl_8 hb, wl_9 hb, wl_10 hb, st_h_n, st_up_s, st_up_n, ne_eq, rg_and, rg_or, Option.some.injEq, Value.int.injEq, Value.ref.injEq, exists_eq_left', exists_eq_left, exists_eq', exists_and_left, and_assoc, true_and, forall_eq, forall_eq', not_false_eq_true, true_implies, and_true, ev_b0, Classical.not_not, st_up_s, st_up_n, ne_eq, not_false_eq_true, not_true_eq_false, true_and, and_true, and_self, or_self, or_false, false_or, or_true, true_or, false_and, and_false, if_false, if_true, true_implies, false_implies, implies_true, exists_eq_left', exists_eq_left, forall_eq, forall_eq', ev_b0, Classical.not_not, reduceIte]
    exact ih (k + 1) _ (by omega)
theorem xp_count (hb : xb G x ol ll oa la lo ow no nl A h) (hI : st_I no nl A) {w : Int32} : Mt l G M_X_count [.ref x, .int w] (XH oa la lo no nl A h) (xP oa la lo h [] (op_count no nl A w)) := by
  have hno := hI.1.1
  have hnl := hI.1.2
  refine vX_count ?_
  simp (config := { decide := true }) only [xx_0 hb, xx_1 hb, xx_f hb, xo_f hb, xl_f hb, xg_o hb hno, xg_l hb hnl, xn_o hb, xn_l hb, xn_i hb, xg_i hb, xf_o hb, xf_l hb, xf_i hb, xo_0 hb, xo_1 hb, xo_2 hb, xo_3 hb, xo_4 hb, xo_5 hb, xo_6 hb, xo_7 hb, xo_8 hb, xo_9 hb, xl_0 hb, xl_1 hb, xl_2 hb, xl_3 hb, xl_4 hb, xl_5 hb, xl_6 hb, xl_7 hb, xl_8 hb, xl_9 hb, xl_10 hb, ws_5 hb, ws_6 hb, ws_7 hb, ws_8 hb, ws_9 hb, wl_3 hb, wl_4 hb, wl_5 hb, wl_6 hb, wl_7 hb, wl_8 hb, wl_9 hb, wl_10 hb, st_h_n, st_up_s, st_up_n, ne_eq, rg_and, rg_or, Option.some.injEq, Value.int.injEq, Value.ref.injEq, exists_eq_left', exists_eq_left, exists_eq', exists_and_left, and_assoc, true_and, forall_eq, forall_eq', not_false_eq_true, true_implies, and_true, ev_b0, Classical.not_not, st_up_s, st_up_n, ne_eq, not_false_eq_true, not_true_eq_false, true_and, and_true, and_self, or_self, or_false, false_or, or_true, true_or, false_and, and_false, if_false, if_true, true_implies, false_implies, implies_true, exists_eq_left', exists_eq_left, forall_eq, forall_eq', ev_b0, Classical.not_not, reduceIte]
  by_cases w0 : w = 0
  · simp (config := { decide := true }) only [w0, st_up_s, st_up_n, ne_eq, not_false_eq_true, not_true_eq_false, true_and, and_true, and_self, or_self, or_false, false_or, or_true, true_or, false_and, and_false, if_false, if_true, true_implies, false_implies, implies_true, exists_eq_left', exists_eq_left, forall_eq, forall_eq', ev_b0, Classical.not_not, reduceIte, xP, op_count]
    all_goals first | exact ⟨rfl, rfl, rfl⟩ | exact ⟨rfl, rfl⟩ | exact ⟨by decide, rfl⟩
  by_cases w1 : w = 1
  · simp (config := { decide := true }) only [w1, st_up_s, st_up_n, ne_eq, not_false_eq_true, not_true_eq_false, true_and, and_true, and_self, or_self, or_false, false_or, or_true, true_or, false_and, and_false, if_false, if_true, true_implies, false_implies, implies_true, exists_eq_left', exists_eq_left, forall_eq, forall_eq', ev_b0, Classical.not_not, reduceIte, xP, op_count]
    all_goals first | exact ⟨rfl, rfl, rfl⟩ | exact ⟨rfl, rfl⟩ | exact ⟨by decide, rfl⟩
  by_cases w2 : w = 2
  · simp (config := { decide := true }) only [w2, st_up_s, st_up_n, ne_eq, not_false_eq_true, not_true_eq_false, true_and, and_true, and_self, or_self, or_false, false_or, or_true, true_or, false_and, and_false, if_false, if_true, true_implies, false_implies, implies_true, exists_eq_left', exists_eq_left, forall_eq, forall_eq', ev_b0, Classical.not_not, reduceIte, op_count]
    refine ⟨_, _, vX_piecesHeld (xo_held_4 hb hI nl 0 0 (by omega)), fun q h' e => ?_, fun _ _ q => q.elim⟩
    obtain ⟨rfl, rfl⟩ := e
    exact ⟨rfl, rfl, rfl⟩
  by_cases w3 : w = 3
  · simp (config := { decide := true }) only [w3, st_up_s, st_up_n, ne_eq, not_false_eq_true, not_true_eq_false, true_and, and_true, and_self, or_self, or_false, false_or, or_true, true_or, false_and, and_false, if_false, if_true, true_implies, false_implies, implies_true, exists_eq_left', exists_eq_left, forall_eq, forall_eq', ev_b0, Classical.not_not, reduceIte, op_count]
    refine ⟨_, _, vX_piecesShipped (xo_shipped_4 hb hno hnl nl 0 0 (by omega)), fun q h' e => ?_, fun _ _ q => q.elim⟩
    obtain ⟨rfl, rfl⟩ := e
    exact ⟨rfl, rfl, rfl⟩
  simp (config := { decide := true }) only [w0, w1, w2, w3, st_up_s, st_up_n, ne_eq, not_false_eq_true, not_true_eq_false, true_and, and_true, and_self, or_self, or_false, false_or, or_true, true_or, false_and, and_false, if_false, if_true, true_implies, false_implies, implies_true, exists_eq_left', exists_eq_left, forall_eq, forall_eq', ev_b0, Classical.not_not, reduceIte, xP, op_count]
  all_goals first | exact ⟨rfl, rfl, rfl⟩ | exact ⟨rfl, rfl⟩ | exact ⟨by decide, rfl⟩
theorem st_w {no nl : Nat} {A : st_A} (hI : st_I no nl A) {i : Nat} (hi : i < no) : ((A 6 i = 0 ∨ A 6 i = 1) ∧ A 7 i = 0) ↔ (A 6 i ≤ 1 ∧ A 7 i = 0) := by
  rcases st_ph hI hi with c6 | c6 | c6 | c6 | c6 | c6 | c6 | c6 <;> simp (config := { decide := true }) only [c6, st_up_s, st_up_n, ne_eq, not_false_eq_true, not_true_eq_false, true_and, and_true, and_self, or_self, or_false, false_or, or_true, true_or, false_and, and_false, if_false, if_true, true_implies, false_implies, implies_true, exists_eq_left', exists_eq_left, forall_eq, forall_eq', ev_b0, Classical.not_not, reduceIte]
theorem xo_before_4 (hb : xb G x ol ll oa la lo ow no nl A h) (hI : st_I no nl A) {o : Nat} (ho : o < no) : ∀ d k a : Nat, k + d = no → Ev l G M_X_waitingBefore 4 [(0, .ref x), (1, .ref (oa o)), (2, .int (nI a)), (3, .int (nI k))] [] (XH oa la lo no nl A h) 0 0 (ev_fin G M_X_waitingBefore (ev_pi (fun q h' => q = nI (st_cnt (fun x => st_wait A x && st_bef A x o) d k a) ∧ h' = XH oa la lo no nl A h) (fun _ _ => False))) := by
  have hno := hI.1.1
  have hnl := hI.1.2
  intro d
  induction d with
  | zero =>
    intro k a e
    obtain rfl : k = no := by omega
    refine vX_waitingBefore_4 ?_
    simp (config := { decide := true }) only [Int32.le_refl, xx_0 hb, xx_1 hb, xx_f hb, xo_f hb, xl_f hb, xg_o hb hno, xg_l hb hnl, xn_o hb, xn_l hb, xn_i hb, xg_i hb, xf_o hb, xf_l hb, xf_i hb, xo_0 hb, xo_1 hb, xo_2 hb, xo_3 hb, xo_4 hb, xo_5 hb, xo_6 hb, xo_7 hb, xo_8 hb, xo_9 hb, xl_0 hb, xl_1 hb, xl_2 hb, xl_3 hb, xl_4 hb, xl_5 hb, xl_6 hb, xl_7 hb, xl_8 hb, xl_9 hb, xl_10 hb, ws_5 hb, ws_6 hb, ws_7 hb, ws_8 hb, ws_9 hb, wl_3 hb, wl_4 hb, wl_5 hb, wl_6 hb, wl_7 hb, wl_8 hb, wl_9 hb, wl_10 hb, st_h_n, st_up_s, st_up_n, ne_eq, rg_and, rg_or, Option.some.injEq, Value.int.injEq, Value.ref.injEq, exists_eq_left', exists_eq_left, exists_eq', exists_and_left, and_assoc, true_and, forall_eq, forall_eq', not_false_eq_true, true_implies, and_true, ev_b0, Classical.not_not, st_up_s, st_up_n, ne_eq, not_false_eq_true, not_true_eq_false, true_and, and_true, and_self, or_self, or_false, false_or, or_true, true_or, false_and, and_false, if_false, if_true, true_implies, false_implies, implies_true, exists_eq_left', exists_eq_left, forall_eq, forall_eq', ev_b0, Classical.not_not, reduceIte]
    exact ⟨rfl, rfl⟩
  | succ d ih =>
    intro k a e
    have hk : ¬ nI no ≤ nI k := nI_ge (by omega) (by omega)
    have hk' : k < no := by omega
    refine vX_waitingBefore_4 ?_
    simp (config := { decide := true }) only [hk, hk', ho, nI_1, st_w hI hk', xx_0 hb, xx_1 hb, xx_f hb, xo_f hb, xl_f hb, xg_o hb hno, xg_l hb hnl, xn_o hb, xn_l hb, xn_i hb, xg_i hb, xf_o hb, xf_l hb, xf_i hb, xo_0 hb, xo_1 hb, xo_2 hb, xo_3 hb, xo_4 hb, xo_5 hb, xo_6 hb, xo_7 hb, xo_8 hb, xo_9 hb, xl_0 hb, xl_1 hb, xl_2 hb, xl_3 hb, xl_4 hb, xl_5 hb, xl_6 hb, xl_7 hb, xl_8 hb, xl_9 hb, xl_10 hb, ws_5 hb, ws_6 hb, ws_7 hb, ws_8 hb, ws_9 hb, wl_3 hb, wl_4 hb, wl_5 hb, wl_6 hb, wl_7 hb, wl_8 hb, wl_9 hb, wl_10 hb, st_h_n, st_up_s, st_up_n, ne_eq, rg_and, rg_or, Option.some.injEq, Value.int.injEq, Value.ref.injEq, exists_eq_left', exists_eq_left, exists_eq', exists_and_left, and_assoc, true_and, forall_eq, forall_eq', not_false_eq_true, true_implies, and_true, ev_b0, Classical.not_not, st_up_s, st_up_n, ne_eq, not_false_eq_true, not_true_eq_false, true_and, and_true, and_self, or_self, or_false, false_or, or_true, true_or, false_and, and_false, if_false, if_true, true_implies, false_implies, implies_true, exists_eq_left', exists_eq_left, forall_eq, forall_eq', ev_b0, Classical.not_not, reduceIte]
    rw [st_cnt]
    by_cases c1 : A 6 k ≤ 1 ∧ A 7 k = 0
    · by_cases c2 : ev_lex (A 4 k) (A 4 o) (A 5 k) (A 5 o) (nI k) (nI o)
      · have ef : (st_wait A k && st_bef A k o) = true := by unfold st_wait st_bef; simp only [c1, c2, decide_true, and_self, Bool.and_self]
        rw [if_pos ef]
        simp (config := { decide := true }) only [c1, c2, st_up_s, st_up_n, ne_eq, not_false_eq_true, not_true_eq_false, true_and, and_true, and_self, or_self, or_false, false_or, or_true, true_or, false_and, and_false, if_false, if_true, true_implies, false_implies, implies_true, exists_eq_left', exists_eq_left, forall_eq, forall_eq', ev_b0, Classical.not_not, reduceIte]
        exact ih (k + 1) (a + 1) (by omega)
      · have ef : ¬ (st_wait A k && st_bef A k o) = true := by unfold st_wait st_bef; simp only [c2, decide_false, Bool.and_false]; decide
        rw [if_neg ef]
        simp (config := { decide := true }) only [c1, c2, st_up_s, st_up_n, ne_eq, not_false_eq_true, not_true_eq_false, true_and, and_true, and_self, or_self, or_false, false_or, or_true, true_or, false_and, and_false, if_false, if_true, true_implies, false_implies, implies_true, exists_eq_left', exists_eq_left, forall_eq, forall_eq', ev_b0, Classical.not_not, reduceIte]
        exact ih (k + 1) a (by omega)
    · have ef : ¬ (st_wait A k && st_bef A k o) = true := by unfold st_wait st_bef; simp only [c1, decide_false, Bool.false_and]; decide
      rw [if_neg ef]
      simp (config := { decide := true }) only [c1, st_up_s, st_up_n, ne_eq, not_false_eq_true, not_true_eq_false, true_and, and_true, and_self, or_self, or_false, false_or, or_true, true_or, false_and, and_false, if_false, if_true, true_implies, false_implies, implies_true, exists_eq_left', exists_eq_left, forall_eq, forall_eq', ev_b0, Classical.not_not, reduceIte]
      exact ih (k + 1) a (by omega)
theorem xo_ready_6 (hb : xb G x ol ll oa la lo ow no nl A h) (hI : st_I no nl A) {i : Int32} {P : ev_Post} (h1 : ∀ o, st_find (fun o => st_wait A o && decide (nI (st_rank A no o) = i)) no 0 = some o → P (.inl (some (.int (nI o)))) (XH oa la lo no nl A h)) (h2 : st_find (fun o => st_wait A o && decide (nI (st_rank A no o) = i)) no 0 = none → P (.inl (some (.int (-1)))) (XH oa la lo no nl A h)) :
    ∀ d k : Nat, k + d = no → st_find (fun o => st_wait A o && decide (nI (st_rank A no o) = i)) d k = st_find (fun o => st_wait A o && decide (nI (st_rank A no o) = i)) no 0 → Ev l G M_X_ready 6 [(0, .ref x), (1, .int i), (2, .int (nI k))] [] (XH oa la lo no nl A h) 0 0 (ev_fin G M_X_ready P) := by
  have hno := hI.1.1
  have hnl := hI.1.2
  intro d
  induction d with
  | zero =>
    intro k e e0
    obtain rfl : k = no := by omega
    refine vX_ready_6 ?_
    simp (config := { decide := true }) only [Int32.le_refl, xx_0 hb, xx_1 hb, xx_f hb, xo_f hb, xl_f hb, xg_o hb hno, xg_l hb hnl, xn_o hb, xn_l hb, xn_i hb, xg_i hb, xf_o hb, xf_l hb, xf_i hb, xo_0 hb, xo_1 hb, xo_2 hb, xo_3 hb, xo_4 hb, xo_5 hb, xo_6 hb, xo_7 hb, xo_8 hb, xo_9 hb, xl_0 hb, xl_1 hb, xl_2 hb, xl_3 hb, xl_4 hb, xl_5 hb, xl_6 hb, xl_7 hb, xl_8 hb, xl_9 hb, xl_10 hb, ws_5 hb, ws_6 hb, ws_7 hb, ws_8 hb, ws_9 hb, wl_3 hb, wl_4 hb, wl_5 hb, wl_6 hb, wl_7 hb, wl_8 hb, wl_9 hb, wl_10 hb, st_h_n, st_up_s, st_up_n, ne_eq, rg_and, rg_or, Option.some.injEq, Value.int.injEq, Value.ref.injEq, exists_eq_left', exists_eq_left, exists_eq', exists_and_left, and_assoc, true_and, forall_eq, forall_eq', not_false_eq_true, true_implies, and_true, ev_b0, Classical.not_not, st_up_s, st_up_n, ne_eq, not_false_eq_true, not_true_eq_false, true_and, and_true, and_self, or_self, or_false, false_or, or_true, true_or, false_and, and_false, if_false, if_true, true_implies, false_implies, implies_true, exists_eq_left', exists_eq_left, forall_eq, forall_eq', ev_b0, Classical.not_not, reduceIte]
    exact h2 e0.symm
  | succ d ih =>
    intro k e e0
    have hk : ¬ nI no ≤ nI k := nI_ge (by omega) (by omega)
    have hk' : k < no := by omega
    rw [st_find] at e0
    refine vX_ready_6 ?_
    simp (config := { decide := true }) only [hk, hk', nI_1, st_w hI hk', xx_0 hb, xx_1 hb, xx_f hb, xo_f hb, xl_f hb, xg_o hb hno, xg_l hb hnl, xn_o hb, xn_l hb, xn_i hb, xg_i hb, xf_o hb, xf_l hb, xf_i hb, xo_0 hb, xo_1 hb, xo_2 hb, xo_3 hb, xo_4 hb, xo_5 hb, xo_6 hb, xo_7 hb, xo_8 hb, xo_9 hb, xl_0 hb, xl_1 hb, xl_2 hb, xl_3 hb, xl_4 hb, xl_5 hb, xl_6 hb, xl_7 hb, xl_8 hb, xl_9 hb, xl_10 hb, ws_5 hb, ws_6 hb, ws_7 hb, ws_8 hb, ws_9 hb, wl_3 hb, wl_4 hb, wl_5 hb, wl_6 hb, wl_7 hb, wl_8 hb, wl_9 hb, wl_10 hb, st_h_n, st_up_s, st_up_n, ne_eq, rg_and, rg_or, Option.some.injEq, Value.int.injEq, Value.ref.injEq, exists_eq_left', exists_eq_left, exists_eq', exists_and_left, and_assoc, true_and, forall_eq, forall_eq', not_false_eq_true, true_implies, and_true, ev_b0, Classical.not_not, st_up_s, st_up_n, ne_eq, not_false_eq_true, not_true_eq_false, true_and, and_true, and_self, or_self, or_false, false_or, or_true, true_or, false_and, and_false, if_false, if_true, true_implies, false_implies, implies_true, exists_eq_left', exists_eq_left, forall_eq, forall_eq', ev_b0, Classical.not_not, reduceIte]
    by_cases c1 : A 6 k ≤ 1 ∧ A 7 k = 0
    · simp (config := { decide := true }) only [c1, st_up_s, st_up_n, ne_eq, not_false_eq_true, not_true_eq_false, true_and, and_true, and_self, or_self, or_false, false_or, or_true, true_or, false_and, and_false, if_false, if_true, true_implies, false_implies, implies_true, exists_eq_left', exists_eq_left, forall_eq, forall_eq', ev_b0, Classical.not_not, reduceIte]
      refine ⟨_, _, vX_waitingBefore (xo_before_4 hb hI hk' no 0 0 (by omega)), fun q h' e => ?_, fun _ _ q => q.elim⟩
      obtain ⟨rfl, rfl⟩ := e
      simp (config := { decide := true }) only [hk', xx_0 hb, xx_1 hb, xx_f hb, xo_f hb, xl_f hb, xg_o hb hno, xg_l hb hnl, xn_o hb, xn_l hb, xn_i hb, xg_i hb, xf_o hb, xf_l hb, xf_i hb, xo_0 hb, xo_1 hb, xo_2 hb, xo_3 hb, xo_4 hb, xo_5 hb, xo_6 hb, xo_7 hb, xo_8 hb, xo_9 hb, xl_0 hb, xl_1 hb, xl_2 hb, xl_3 hb, xl_4 hb, xl_5 hb, xl_6 hb, xl_7 hb, xl_8 hb, xl_9 hb, xl_10 hb, ws_5 hb, ws_6 hb, ws_7 hb, ws_8 hb, ws_9 hb, wl_3 hb, wl_4 hb, wl_5 hb, wl_6 hb, wl_7 hb, wl_8 hb, wl_9 hb, wl_10 hb, st_h_n, st_up_s, st_up_n, ne_eq, rg_and, rg_or, Option.some.injEq, Value.int.injEq, Value.ref.injEq, exists_eq_left', exists_eq_left, exists_eq', exists_and_left, and_assoc, true_and, forall_eq, forall_eq', not_false_eq_true, true_implies, and_true, ev_b0, Classical.not_not, st_up_s, st_up_n, ne_eq, not_false_eq_true, not_true_eq_false, true_and, and_true, and_self, or_self, or_false, false_or, or_true, true_or, false_and, and_false, if_false, if_true, true_implies, false_implies, implies_true, exists_eq_left', exists_eq_left, forall_eq, forall_eq', ev_b0, Classical.not_not, reduceIte]
      refine ⟨fun z => ?_, fun z => ?_⟩
      · rw [if_neg (by unfold st_rank; simp only [z, decide_false, Bool.and_false]; decide)] at e0
        exact ih (k + 1) (by omega) e0
      · rw [if_pos (by unfold st_wait st_rank; simp only [z, c1, decide_true, and_self, Bool.and_self])] at e0
        exact h1 k e0.symm
    · simp (config := { decide := true }) only [c1, st_up_s, st_up_n, ne_eq, not_false_eq_true, not_true_eq_false, true_and, and_true, and_self, or_self, or_false, false_or, or_true, true_or, false_and, and_false, if_false, if_true, true_implies, false_implies, implies_true, exists_eq_left', exists_eq_left, forall_eq, forall_eq', ev_b0, Classical.not_not, reduceIte]
      rw [if_neg (by unfold st_wait; simp only [c1, decide_false, Bool.false_and]; decide)] at e0
      exact ih (k + 1) (by omega) e0
theorem xp_ready (hb : xb G x ol ll oa la lo ow no nl A h) (hI : st_I no nl A) {i : Int32} : Mt l G M_X_ready [.ref x, .int i] (XH oa la lo no nl A h) (xP oa la lo h x_A (op_ready no nl A i)) := by
  refine vX_ready ⟨fun c1 => ?_, fun c1 => ?_⟩
  · simp only [op_ready, if_neg c1]
    refine xo_ready_6 hb hI (fun o e => ?_) (fun e => ?_) no 0 (by omega) rfl
    · rw [e]; exact ⟨rfl, rfl, rfl⟩
    · rw [e]; exact ⟨rfl, rfl, rfl⟩
  · simp only [op_ready, if_pos c1, xP]
    all_goals first | exact ⟨rfl, rfl, rfl⟩ | exact ⟨rfl, rfl⟩ | exact ⟨by decide, rfl⟩
end X5
